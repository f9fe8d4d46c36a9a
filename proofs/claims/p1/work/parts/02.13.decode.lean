theorem dX12_says_32 : decode cX12_says 32 = .ok (.return_, 1) := by decide +kernel
theorem dX12_saysNode_0 : decode cX12_saysNode 0 = .ok (.bipush 60, 2) := by decide +kernel
theorem dX12_saysNode_2 : decode cX12_saysNode 2 = .ok (.aload_n 0, 1) := by decide +kernel
theorem dX12_saysNode_3 : decode cX12_saysNode 3 = .ok (.getfield 392, 3) := by decide +kernel
theorem dX12_saysNode_6 : decode cX12_saysNode 6 = .ok (.imul, 1) := by decide +kernel
theorem dX12_saysNode_7 : decode cX12_saysNode 7 = .ok (.iload_n 1, 1) := by decide +kernel
theorem dX12_saysNode_8 : decode cX12_saysNode 8 = .ok (.iadd, 1) := by decide +kernel
theorem dX12_saysNode_9 : decode cX12_saysNode 9 = .ok (.istore_n 3, 1) := by decide +kernel
theorem dX12_saysNode_10 : decode cX12_saysNode 10 = .ok (.aload_n 0, 1) := by decide +kernel
theorem dX12_saysNode_11 : decode cX12_saysNode 11 = .ok (.getfield 72, 3) := by decide +kernel
theorem dX12_saysNode_14 : decode cX12_saysNode 14 = .ok (.iload_n 3, 1) := by decide +kernel
theorem dX12_saysNode_15 : decode cX12_saysNode 15 = .ok (.iaload, 1) := by decide +kernel
theorem dX12_saysNode_16 : decode cX12_saysNode 16 = .ok (.istore 4, 2) := by decide +kernel
theorem dX12_saysNode_18 : decode cX12_saysNode 18 = .ok (.iload_n 2, 1) := by decide +kernel
theorem dX12_saysNode_19 : decode cX12_saysNode 19 = .ok (.ifCond .eq 43, 3) := by decide +kernel
theorem dX12_saysNode_22 : decode cX12_saysNode 22 = .ok (.aload_n 0, 1) := by decide +kernel
theorem dX12_saysNode_23 : decode cX12_saysNode 23 = .ok (.getfield 130, 3) := by decide +kernel
theorem dX12_saysNode_26 : decode cX12_saysNode 26 = .ok (.iload_n 1, 1) := by decide +kernel
theorem dX12_saysNode_27 : decode cX12_saysNode 27 = .ok (.iaload, 1) := by decide +kernel
theorem dX12_saysNode_28 : decode cX12_saysNode 28 = .ok (.iconst (-1), 1) := by decide +kernel
theorem dX12_saysNode_29 : decode cX12_saysNode 29 = .ok (.if_icmp .eq 33, 3) := by decide +kernel
theorem dX12_saysNode_62 : decode cX12_saysNode 62 = .ok (.iload 4, 2) := by decide +kernel
theorem dX12_saysNode_64 : decode cX12_saysNode 64 = .ok (.ifCond .ne 13, 3) := by decide +kernel
theorem dX12_saysNode_67 : decode cX12_saysNode 67 = .ok (.aload_n 0, 1) := by decide +kernel
theorem dX12_saysNode_68 : decode cX12_saysNode 68 = .ok (.aload_n 0, 1) := by decide +kernel
theorem dX12_saysNode_69 : decode cX12_saysNode 69 = .ok (.getfield 75, 3) := by decide +kernel
theorem dX12_saysNode_72 : decode cX12_saysNode 72 = .ok (.iload_n 3, 1) := by decide +kernel
theorem dX12_saysNode_73 : decode cX12_saysNode 73 = .ok (.iaload, 1) := by decide +kernel
theorem dX12_saysNode_74 : decode cX12_saysNode 74 = .ok (.invokevirtual 681, 3) := by decide +kernel
theorem dX12_saysNode_77 : decode cX12_saysNode 77 = .ok (.iload 4, 2) := by decide +kernel
theorem dX12_saysNode_79 : decode cX12_saysNode 79 = .ok (.iconst 1, 1) := by decide +kernel
theorem dX12_saysNode_80 : decode cX12_saysNode 80 = .ok (.if_icmp .ne 26, 3) := by decide +kernel
theorem dX12_saysNode_106 : decode cX12_saysNode 106 = .ok (.iload 4, 2) := by decide +kernel
theorem dX12_saysNode_108 : decode cX12_saysNode 108 = .ok (.iconst 2, 1) := by decide +kernel
theorem dX12_saysNode_109 : decode cX12_saysNode 109 = .ok (.if_icmp .ne 13, 3) := by decide +kernel
theorem dX12_saysNode_122 : decode cX12_saysNode 122 = .ok (.iload 4, 2) := by decide +kernel
theorem dX12_saysNode_124 : decode cX12_saysNode 124 = .ok (.iconst 2, 1) := by decide +kernel
theorem dX12_saysNode_125 : decode cX12_saysNode 125 = .ok (.if_icmp .gt 4, 3) := by decide +kernel
theorem dX12_saysNode_128 : decode cX12_saysNode 128 = .ok (.return_, 1) := by decide +kernel
theorem dX12_saysNumber_0 : decode cX12_saysNumber 0 = .ok (.iconst 1, 1) := by decide +kernel
theorem dX12_saysNumber_1 : decode cX12_saysNumber 1 = .ok (.istore_n 2, 1) := by decide +kernel
theorem dX12_saysNumber_2 : decode cX12_saysNumber 2 = .ok (.iload_n 1, 1) := by decide +kernel
theorem dX12_saysNumber_3 : decode cX12_saysNumber 3 = .ok (.iload_n 2, 1) := by decide +kernel
theorem dX12_saysNumber_4 : decode cX12_saysNumber 4 = .ok (.idiv, 1) := by decide +kernel
theorem dX12_saysNumber_5 : decode cX12_saysNumber 5 = .ok (.bipush 9, 2) := by decide +kernel
theorem dX12_saysNumber_7 : decode cX12_saysNumber 7 = .ok (.if_icmp .le 11, 3) := by decide +kernel
theorem dX12_saysNumber_18 : decode cX12_saysNumber 18 = .ok (.iload_n 2, 1) := by decide +kernel
theorem dX12_saysNumber_19 : decode cX12_saysNumber 19 = .ok (.ifCond .le 24, 3) := by decide +kernel
theorem dX12_saysNumber_22 : decode cX12_saysNumber 22 = .ok (.aload_n 0, 1) := by decide +kernel
theorem dX12_saysNumber_23 : decode cX12_saysNumber 23 = .ok (.bipush 48, 2) := by decide +kernel
theorem dX12_saysNumber_25 : decode cX12_saysNumber 25 = .ok (.iload_n 1, 1) := by decide +kernel
theorem dX12_saysNumber_26 : decode cX12_saysNumber 26 = .ok (.iload_n 2, 1) := by decide +kernel
theorem dX12_saysNumber_27 : decode cX12_saysNumber 27 = .ok (.idiv, 1) := by decide +kernel
theorem dX12_saysNumber_28 : decode cX12_saysNumber 28 = .ok (.bipush 10, 2) := by decide +kernel
theorem dX12_saysNumber_30 : decode cX12_saysNumber 30 = .ok (.irem, 1) := by decide +kernel
theorem dX12_saysNumber_31 : decode cX12_saysNumber 31 = .ok (.iadd, 1) := by decide +kernel
theorem dX12_saysNumber_32 : decode cX12_saysNumber 32 = .ok (.invokevirtual 672, 3) := by decide +kernel
theorem dX12_saysNumber_35 : decode cX12_saysNumber 35 = .ok (.iload_n 2, 1) := by decide +kernel
theorem dX12_saysNumber_36 : decode cX12_saysNumber 36 = .ok (.bipush 10, 2) := by decide +kernel
theorem dX12_saysNumber_38 : decode cX12_saysNumber 38 = .ok (.idiv, 1) := by decide +kernel
theorem dX12_saysNumber_39 : decode cX12_saysNumber 39 = .ok (.istore_n 2, 1) := by decide +kernel
theorem dX12_saysNumber_40 : decode cX12_saysNumber 40 = .ok (.goto (-22), 3) := by decide +kernel
theorem dX12_saysNumber_43 : decode cX12_saysNumber 43 = .ok (.return_, 1) := by decide +kernel
theorem dX12_saysTerm_0 : decode cX12_saysTerm 0 = .ok (.aload_n 0, 1) := by decide +kernel
theorem dX12_saysTerm_1 : decode cX12_saysTerm 1 = .ok (.iload_n 1, 1) := by decide +kernel
theorem dX12_saysTerm_2 : decode cX12_saysTerm 2 = .ok (.putfield 699, 3) := by decide +kernel
theorem dX12_saysTerm_5 : decode cX12_saysTerm 5 = .ok (.aload_n 0, 1) := by decide +kernel
theorem dX12_saysTerm_6 : decode cX12_saysTerm 6 = .ok (.iconst 0, 1) := by decide +kernel
theorem dX12_saysTerm_7 : decode cX12_saysTerm 7 = .ok (.putfield 696, 3) := by decide +kernel
theorem dX12_saysTerm_10 : decode cX12_saysTerm 10 = .ok (.aload_n 0, 1) := by decide +kernel
theorem dX12_saysTerm_11 : decode cX12_saysTerm 11 = .ok (.iload_n 1, 1) := by decide +kernel
theorem dX12_saysTerm_12 : decode cX12_saysTerm 12 = .ok (.invokevirtual 702, 3) := by decide +kernel
theorem dX12_saysTerm_15 : decode cX12_saysTerm 15 = .ok (.aload_n 0, 1) := by decide +kernel
theorem dX12_saysTerm_16 : decode cX12_saysTerm 16 = .ok (.getfield 696, 3) := by decide +kernel
theorem dX12_saysTerm_19 : decode cX12_saysTerm 19 = .ok (.ifCond .le 70, 3) := by decide +kernel
theorem dX12_saysTerm_22 : decode cX12_saysTerm 22 = .ok (.aload_n 0, 1) := by decide +kernel
theorem dX12_saysTerm_23 : decode cX12_saysTerm 23 = .ok (.aload_n 0, 1) := by decide +kernel
theorem dX12_saysTerm_24 : decode cX12_saysTerm 24 = .ok (.getfield 696, 3) := by decide +kernel
theorem dX12_saysTerm_27 : decode cX12_saysTerm 27 = .ok (.iconst 1, 1) := by decide +kernel
theorem dX12_saysTerm_28 : decode cX12_saysTerm 28 = .ok (.isub, 1) := by decide +kernel
theorem dX12_saysTerm_29 : decode cX12_saysTerm 29 = .ok (.putfield 696, 3) := by decide +kernel
theorem dX12_saysTerm_32 : decode cX12_saysTerm 32 = .ok (.aload_n 0, 1) := by decide +kernel
theorem dX12_saysTerm_33 : decode cX12_saysTerm 33 = .ok (.getfield 220, 3) := by decide +kernel
theorem dX12_saysTerm_36 : decode cX12_saysTerm 36 = .ok (.aload_n 0, 1) := by decide +kernel
theorem dX12_saysTerm_37 : decode cX12_saysTerm 37 = .ok (.getfield 696, 3) := by decide +kernel
theorem dX12_saysTerm_40 : decode cX12_saysTerm 40 = .ok (.iaload, 1) := by decide +kernel
theorem dX12_saysTerm_41 : decode cX12_saysTerm 41 = .ok (.istore_n 3, 1) := by decide +kernel
theorem dX12_saysTerm_42 : decode cX12_saysTerm 42 = .ok (.iload_n 3, 1) := by decide +kernel
theorem dX12_saysTerm_43 : decode cX12_saysTerm 43 = .ok (.ifCond .ge 12, 3) := by decide +kernel
theorem dX12_saysTerm_55 : decode cX12_saysTerm 55 = .ok (.iload_n 3, 1) := by decide +kernel
theorem dX12_saysTerm_56 : decode cX12_saysTerm 56 = .ok (.bipush 100, 2) := by decide +kernel
theorem dX12_saysTerm_58 : decode cX12_saysTerm 58 = .ok (.if_icmp .lt 22, 3) := by decide +kernel
theorem dX12_saysTerm_80 : decode cX12_saysTerm 80 = .ok (.aload_n 0, 1) := by decide +kernel
theorem dX12_saysTerm_81 : decode cX12_saysTerm 81 = .ok (.iload_n 3, 1) := by decide +kernel
theorem dX12_saysTerm_82 : decode cX12_saysTerm 82 = .ok (.iload_n 2, 1) := by decide +kernel
theorem dX12_saysTerm_83 : decode cX12_saysTerm 83 = .ok (.invokevirtual 708, 3) := by decide +kernel
theorem dX12_saysTerm_86 : decode cX12_saysTerm 86 = .ok (.goto (-71), 3) := by decide +kernel
theorem dX12_saysTerm_89 : decode cX12_saysTerm 89 = .ok (.return_, 1) := by decide +kernel
theorem dX12_saysType_0 : decode cX12_saysType 0 = .ok (.aload_n 0, 1) := by decide +kernel
theorem dX12_saysType_1 : decode cX12_saysType 1 = .ok (.iconst 0, 1) := by decide +kernel
theorem dX12_saysType_2 : decode cX12_saysType 2 = .ok (.putfield 257, 3) := by decide +kernel
theorem dX12_saysType_5 : decode cX12_saysType 5 = .ok (.aload_n 0, 1) := by decide +kernel
theorem dX12_saysType_6 : decode cX12_saysType 6 = .ok (.iload_n 1, 1) := by decide +kernel
theorem dX12_saysType_7 : decode cX12_saysType 7 = .ok (.invokevirtual 263, 3) := by decide +kernel
theorem dX12_saysType_10 : decode cX12_saysType 10 = .ok (.aload_n 0, 1) := by decide +kernel
theorem dX12_saysType_11 : decode cX12_saysType 11 = .ok (.getfield 257, 3) := by decide +kernel
theorem dX12_saysType_14 : decode cX12_saysType 14 = .ok (.ifCond .le 115, 3) := by decide +kernel
theorem dX12_saysType_17 : decode cX12_saysType 17 = .ok (.aload_n 0, 1) := by decide +kernel
theorem dX12_saysType_18 : decode cX12_saysType 18 = .ok (.invokevirtual 260, 3) := by decide +kernel
theorem dX12_saysType_21 : decode cX12_saysType 21 = .ok (.istore_n 2, 1) := by decide +kernel
theorem dX12_saysType_22 : decode cX12_saysType 22 = .ok (.iload_n 2, 1) := by decide +kernel
theorem dX12_saysType_23 : decode cX12_saysType 23 = .ok (.ifCond .ge 9, 3) := by decide +kernel
theorem dX12_saysType_32 : decode cX12_saysType 32 = .ok (.iload_n 2, 1) := by decide +kernel
theorem dX12_saysType_33 : decode cX12_saysType 33 = .ok (.ifCond .ne 9, 3) := by decide +kernel
theorem dX12_saysType_42 : decode cX12_saysType 42 = .ok (.iload_n 2, 1) := by decide +kernel
theorem dX12_saysType_43 : decode cX12_saysType 43 = .ok (.iconst 1, 1) := by decide +kernel
theorem dX12_saysType_44 : decode cX12_saysType 44 = .ok (.if_icmp .ne 10, 3) := by decide +kernel
theorem dX12_saysType_47 : decode cX12_saysType 47 = .ok (.aload_n 0, 1) := by decide +kernel
theorem dX12_saysType_48 : decode cX12_saysType 48 = .ok (.ldc2_w 372, 3) := by decide +kernel
theorem dX12_saysType_51 : decode cX12_saysType 51 = .ok (.invokevirtual 677, 3) := by decide +kernel
theorem dX12_saysType_54 : decode cX12_saysType 54 = .ok (.iload_n 2, 1) := by decide +kernel
theorem dX12_saysType_55 : decode cX12_saysType 55 = .ok (.iconst 2, 1) := by decide +kernel
theorem dX12_saysType_56 : decode cX12_saysType 56 = .ok (.if_icmp .ne 10, 3) := by decide +kernel
theorem dX12_saysType_66 : decode cX12_saysType 66 = .ok (.iload_n 2, 1) := by decide +kernel
theorem dX12_saysType_67 : decode cX12_saysType 67 = .ok (.invokestatic 241, 3) := by decide +kernel
theorem dX12_saysType_70 : decode cX12_saysType 70 = .ok (.ifCond .ne 6, 3) := by decide +kernel
theorem dX12_saysType_73 : decode cX12_saysType 73 = .ok (.goto (-63), 3) := by decide +kernel
theorem dX12_saysType_129 : decode cX12_saysType 129 = .ok (.return_, 1) := by decide +kernel
theorem dX12_saysWord_0 : decode cX12_saysWord 0 = .ok (.bipush 30, 2) := by decide +kernel
theorem dX12_saysWord_2 : decode cX12_saysWord 2 = .ok (.istore_n 3, 1) := by decide +kernel
theorem dX12_saysWord_3 : decode cX12_saysWord 3 = .ok (.iload_n 3, 1) := by decide +kernel
theorem dX12_saysWord_4 : decode cX12_saysWord 4 = .ok (.ifCond .lt 39, 3) := by decide +kernel
theorem dX12_saysWord_7 : decode cX12_saysWord 7 = .ok (.lload_n 1, 1) := by decide +kernel
theorem dX12_saysWord_8 : decode cX12_saysWord 8 = .ok (.iload_n 3, 1) := by decide +kernel
theorem dX12_saysWord_9 : decode cX12_saysWord 9 = .ok (.lshr, 1) := by decide +kernel
theorem dX12_saysWord_10 : decode cX12_saysWord 10 = .ok (.ldc2_w 675, 3) := by decide +kernel
theorem dX12_saysWord_13 : decode cX12_saysWord 13 = .ok (.land, 1) := by decide +kernel
theorem dX12_saysWord_14 : decode cX12_saysWord 14 = .ok (.lconst 0, 1) := by decide +kernel
theorem dX12_saysWord_15 : decode cX12_saysWord 15 = .ok (.lcmp, 1) := by decide +kernel
theorem dX12_saysWord_16 : decode cX12_saysWord 16 = .ok (.ifCond .eq 20, 3) := by decide +kernel
theorem dX12_saysWord_19 : decode cX12_saysWord 19 = .ok (.aload_n 0, 1) := by decide +kernel
theorem dX12_saysWord_20 : decode cX12_saysWord 20 = .ok (.bipush 97, 2) := by decide +kernel
theorem dX12_saysWord_22 : decode cX12_saysWord 22 = .ok (.lload_n 1, 1) := by decide +kernel
theorem dX12_saysWord_23 : decode cX12_saysWord 23 = .ok (.iload_n 3, 1) := by decide +kernel
theorem dX12_saysWord_24 : decode cX12_saysWord 24 = .ok (.lshr, 1) := by decide +kernel
theorem dX12_saysWord_25 : decode cX12_saysWord 25 = .ok (.ldc2_w 675, 3) := by decide +kernel
theorem dX12_saysWord_28 : decode cX12_saysWord 28 = .ok (.land, 1) := by decide +kernel
theorem dX12_saysWord_29 : decode cX12_saysWord 29 = .ok (.l2i, 1) := by decide +kernel
theorem dX12_saysWord_30 : decode cX12_saysWord 30 = .ok (.iadd, 1) := by decide +kernel
theorem dX12_saysWord_31 : decode cX12_saysWord 31 = .ok (.iconst 1, 1) := by decide +kernel
theorem dX12_saysWord_32 : decode cX12_saysWord 32 = .ok (.isub, 1) := by decide +kernel
theorem dX12_saysWord_33 : decode cX12_saysWord 33 = .ok (.invokevirtual 672, 3) := by decide +kernel
theorem dX12_saysWord_36 : decode cX12_saysWord 36 = .ok (.iload_n 3, 1) := by decide +kernel
theorem dX12_saysWord_37 : decode cX12_saysWord 37 = .ok (.iconst 5, 1) := by decide +kernel
theorem dX12_saysWord_38 : decode cX12_saysWord 38 = .ok (.isub, 1) := by decide +kernel
theorem dX12_saysWord_39 : decode cX12_saysWord 39 = .ok (.istore_n 3, 1) := by decide +kernel
theorem dX12_saysWord_40 : decode cX12_saysWord 40 = .ok (.goto (-37), 3) := by decide +kernel
theorem dX12_saysWord_43 : decode cX12_saysWord 43 = .ok (.return_, 1) := by decide +kernel
theorem dX12_sees_0 : decode cX12_sees 0 = .ok (.iconst 0, 1) := by decide +kernel
theorem dX12_sees_1 : decode cX12_sees 1 = .ok (.istore_n 1, 1) := by decide +kernel
theorem dX12_sees_2 : decode cX12_sees 2 = .ok (.iload_n 1, 1) := by decide +kernel
theorem dX12_sees_3 : decode cX12_sees 3 = .ok (.aload_n 0, 1) := by decide +kernel
theorem dX12_sees_4 : decode cX12_sees 4 = .ok (.getfield 610, 3) := by decide +kernel
theorem dX12_sees_7 : decode cX12_sees 7 = .ok (.if_icmp .ge 44, 3) := by decide +kernel
theorem dX12_sees_51 : decode cX12_sees 51 = .ok (.aload_n 0, 1) := by decide +kernel
theorem dX12_sees_52 : decode cX12_sees 52 = .ok (.getfield 196, 3) := by decide +kernel
theorem dX12_sees_55 : decode cX12_sees 55 = .ok (.aload_n 0, 1) := by decide +kernel
theorem dX12_sees_56 : decode cX12_sees 56 = .ok (.getfield 610, 3) := by decide +kernel
theorem dX12_sees_59 : decode cX12_sees 59 = .ok (.aload_n 0, 1) := by decide +kernel
theorem dX12_sees_60 : decode cX12_sees 60 = .ok (.getfield 553, 3) := by decide +kernel
theorem dX12_sees_63 : decode cX12_sees 63 = .ok (.iastore, 1) := by decide +kernel
theorem dX12_sees_64 : decode cX12_sees 64 = .ok (.aload_n 0, 1) := by decide +kernel
theorem dX12_sees_65 : decode cX12_sees 65 = .ok (.getfield 199, 3) := by decide +kernel
theorem dX12_sees_68 : decode cX12_sees 68 = .ok (.aload_n 0, 1) := by decide +kernel
theorem dX12_sees_69 : decode cX12_sees 69 = .ok (.getfield 610, 3) := by decide +kernel
theorem dX12_sees_72 : decode cX12_sees 72 = .ok (.aload_n 0, 1) := by decide +kernel
theorem dX12_sees_73 : decode cX12_sees 73 = .ok (.getfield 556, 3) := by decide +kernel
theorem dX12_sees_76 : decode cX12_sees 76 = .ok (.iastore, 1) := by decide +kernel
theorem dX12_sees_77 : decode cX12_sees 77 = .ok (.aload_n 0, 1) := by decide +kernel
theorem dX12_sees_78 : decode cX12_sees 78 = .ok (.aload_n 0, 1) := by decide +kernel
theorem dX12_sees_79 : decode cX12_sees 79 = .ok (.getfield 610, 3) := by decide +kernel
theorem dX12_sees_82 : decode cX12_sees 82 = .ok (.iconst 1, 1) := by decide +kernel
theorem dX12_sees_83 : decode cX12_sees 83 = .ok (.iadd, 1) := by decide +kernel
theorem dX12_sees_84 : decode cX12_sees 84 = .ok (.putfield 610, 3) := by decide +kernel
theorem dX12_sees_87 : decode cX12_sees 87 = .ok (.return_, 1) := by decide +kernel
theorem dX12_sets_0 : decode cX12_sets 0 = .ok (.iload_n 1, 1) := by decide +kernel
theorem dX12_sets_1 : decode cX12_sets 1 = .ok (.iconst 0, 1) := by decide +kernel
theorem dX12_sets_2 : decode cX12_sets 2 = .ok (.bipush 6, 2) := by decide +kernel
theorem dX12_sets_4 : decode cX12_sets 4 = .ok (.invokestatic 334, 3) := by decide +kernel
theorem dX12_sets_7 : decode cX12_sets 7 = .ok (.ifCond .ne 5, 3) := by decide +kernel
theorem dX12_sets_10 : decode cX12_sets 10 = .ok (.iconst (-1), 1) := by decide +kernel
theorem dX12_sets_11 : decode cX12_sets 11 = .ok (.ireturn, 1) := by decide +kernel
theorem dX12_sets_12 : decode cX12_sets 12 = .ok (.aload_n 0, 1) := by decide +kernel
theorem dX12_sets_13 : decode cX12_sets 13 = .ok (.getfield 443, 3) := by decide +kernel
theorem dX12_sets_16 : decode cX12_sets 16 = .ok (.istore_n 2, 1) := by decide +kernel
theorem dX12_sets_17 : decode cX12_sets 17 = .ok (.iconst 0, 1) := by decide +kernel
theorem dX12_sets_18 : decode cX12_sets 18 = .ok (.istore_n 3, 1) := by decide +kernel
theorem dX12_sets_19 : decode cX12_sets 19 = .ok (.iconst 0, 1) := by decide +kernel
theorem dX12_sets_20 : decode cX12_sets 20 = .ok (.istore 4, 2) := by decide +kernel
theorem dX12_sets_22 : decode cX12_sets 22 = .ok (.iconst 0, 1) := by decide +kernel
theorem dX12_sets_23 : decode cX12_sets 23 = .ok (.istore 5, 2) := by decide +kernel
theorem dX12_sets_25 : decode cX12_sets 25 = .ok (.iconst 0, 1) := by decide +kernel
theorem dX12_sets_26 : decode cX12_sets 26 = .ok (.istore 6, 2) := by decide +kernel
theorem dX12_sets_28 : decode cX12_sets 28 = .ok (.iconst 0, 1) := by decide +kernel
theorem dX12_sets_29 : decode cX12_sets 29 = .ok (.istore 7, 2) := by decide +kernel
theorem dX12_sets_31 : decode cX12_sets 31 = .ok (.iconst 0, 1) := by decide +kernel
theorem dX12_sets_32 : decode cX12_sets 32 = .ok (.istore 8, 2) := by decide +kernel
theorem dX12_sets_34 : decode cX12_sets 34 = .ok (.aload_n 0, 1) := by decide +kernel
theorem dX12_sets_35 : decode cX12_sets 35 = .ok (.iconst 0, 1) := by decide +kernel
theorem dX12_sets_36 : decode cX12_sets 36 = .ok (.putfield 610, 3) := by decide +kernel
theorem dX12_sets_39 : decode cX12_sets 39 = .ok (.iconst 0, 1) := by decide +kernel
theorem dX12_sets_40 : decode cX12_sets 40 = .ok (.istore 9, 2) := by decide +kernel
theorem dX12_sets_42 : decode cX12_sets 42 = .ok (.iload 9, 2) := by decide +kernel
theorem dX12_sets_44 : decode cX12_sets 44 = .ok (.iconst 1, 1) := by decide +kernel
theorem dX12_sets_45 : decode cX12_sets 45 = .ok (.aload_n 0, 1) := by decide +kernel
theorem dX12_sets_46 : decode cX12_sets 46 = .ok (.getfield 99, 3) := by decide +kernel
theorem dX12_sets_49 : decode cX12_sets 49 = .ok (.aload_n 0, 1) := by decide +kernel
theorem dX12_sets_50 : decode cX12_sets 50 = .ok (.getfield 392, 3) := by decide +kernel
theorem dX12_sets_53 : decode cX12_sets 53 = .ok (.iaload, 1) := by decide +kernel
theorem dX12_sets_54 : decode cX12_sets 54 = .ok (.iconst 4, 1) := by decide +kernel
theorem dX12_sets_55 : decode cX12_sets 55 = .ok (.if_icmp .ge 15, 3) := by decide +kernel
theorem dX12_sets_58 : decode cX12_sets 58 = .ok (.aload_n 0, 1) := by decide +kernel
theorem dX12_sets_59 : decode cX12_sets 59 = .ok (.getfield 99, 3) := by decide +kernel
theorem dX12_sets_62 : decode cX12_sets 62 = .ok (.aload_n 0, 1) := by decide +kernel
theorem dX12_sets_63 : decode cX12_sets 63 = .ok (.getfield 392, 3) := by decide +kernel
theorem dX12_sets_66 : decode cX12_sets 66 = .ok (.iaload, 1) := by decide +kernel
theorem dX12_sets_67 : decode cX12_sets 67 = .ok (.goto 4, 3) := by decide +kernel
theorem dX12_sets_71 : decode cX12_sets 71 = .ok (.ishl, 1) := by decide +kernel
theorem dX12_sets_72 : decode cX12_sets 72 = .ok (.if_icmp .ge 135, 3) := by decide +kernel
theorem dX12_sets_75 : decode cX12_sets 75 = .ok (.aload_n 0, 1) := by decide +kernel
theorem dX12_sets_76 : decode cX12_sets 76 = .ok (.iload 9, 2) := by decide +kernel
theorem dX12_sets_78 : decode cX12_sets 78 = .ok (.putfield 443, 3) := by decide +kernel
theorem dX12_sets_81 : decode cX12_sets 81 = .ok (.aload_n 0, 1) := by decide +kernel
theorem dX12_sets_82 : decode cX12_sets 82 = .ok (.invokevirtual 227, 3) := by decide +kernel
theorem dX12_sets_85 : decode cX12_sets 85 = .ok (.iconst (-1), 1) := by decide +kernel
theorem dX12_sets_86 : decode cX12_sets 86 = .ok (.if_icmp .eq 6, 3) := by decide +kernel
theorem dX12_sets_92 : decode cX12_sets 92 = .ok (.aload_n 0, 1) := by decide +kernel
theorem dX12_sets_93 : decode cX12_sets 93 = .ok (.iconst 0, 1) := by decide +kernel
theorem dX12_sets_94 : decode cX12_sets 94 = .ok (.bipush 100, 2) := by decide +kernel
theorem dX12_sets_96 : decode cX12_sets 96 = .ok (.invokevirtual 604, 3) := by decide +kernel
theorem dX12_sets_99 : decode cX12_sets 99 = .ok (.iload_n 3, 1) := by decide +kernel
theorem dX12_sets_100 : decode cX12_sets 100 = .ok (.ifCond .eq 12, 3) := by decide +kernel
theorem dX12_sets_112 : decode cX12_sets 112 = .ok (.aload_n 0, 1) := by decide +kernel
theorem dX12_sets_113 : decode cX12_sets 113 = .ok (.getfield 457, 3) := by decide +kernel
theorem dX12_sets_116 : decode cX12_sets 116 = .ok (.goto 5, 3) := by decide +kernel
theorem dX12_sets_121 : decode cX12_sets 121 = .ok (.istore 7, 2) := by decide +kernel
theorem dX12_sets_123 : decode cX12_sets 123 = .ok (.iload 8, 2) := by decide +kernel
theorem dX12_sets_125 : decode cX12_sets 125 = .ok (.aload_n 0, 1) := by decide +kernel
theorem dX12_sets_126 : decode cX12_sets 126 = .ok (.getfield 457, 3) := by decide +kernel
theorem dX12_sets_129 : decode cX12_sets 129 = .ok (.invokestatic 238, 3) := by decide +kernel
theorem dX12_sets_132 : decode cX12_sets 132 = .ok (.istore 8, 2) := by decide +kernel
theorem dX12_sets_134 : decode cX12_sets 134 = .ok (.iload_n 3, 1) := by decide +kernel
theorem dX12_sets_135 : decode cX12_sets 135 = .ok (.iconst 1, 1) := by decide +kernel
theorem dX12_sets_136 : decode cX12_sets 136 = .ok (.iadd, 1) := by decide +kernel
theorem dX12_sets_137 : decode cX12_sets 137 = .ok (.istore_n 3, 1) := by decide +kernel
theorem dX12_sets_138 : decode cX12_sets 138 = .ok (.iload 4, 2) := by decide +kernel
theorem dX12_sets_140 : decode cX12_sets 140 = .ok (.aload_n 0, 1) := by decide +kernel
theorem dX12_sets_141 : decode cX12_sets 141 = .ok (.invokevirtual 607, 3) := by decide +kernel
theorem dX12_sets_144 : decode cX12_sets 144 = .ok (.ifCond .eq 7, 3) := by decide +kernel
theorem dX12_sets_147 : decode cX12_sets 147 = .ok (.iconst 1, 1) := by decide +kernel
theorem dX12_sets_148 : decode cX12_sets 148 = .ok (.goto 4, 3) := by decide +kernel
theorem dX12_sets_152 : decode cX12_sets 152 = .ok (.iadd, 1) := by decide +kernel
theorem dX12_sets_153 : decode cX12_sets 153 = .ok (.istore 4, 2) := by decide +kernel
theorem dX12_sets_155 : decode cX12_sets 155 = .ok (.iload 5, 2) := by decide +kernel
theorem dX12_sets_157 : decode cX12_sets 157 = .ok (.aload_n 0, 1) := by decide +kernel
theorem dX12_sets_158 : decode cX12_sets 158 = .ok (.getfield 553, 3) := by decide +kernel
theorem dX12_sets_161 : decode cX12_sets 161 = .ok (.iconst 4, 1) := by decide +kernel
theorem dX12_sets_162 : decode cX12_sets 162 = .ok (.if_icmp .ne 7, 3) := by decide +kernel
theorem dX12_sets_169 : decode cX12_sets 169 = .ok (.iconst 0, 1) := by decide +kernel
theorem dX12_sets_170 : decode cX12_sets 170 = .ok (.iadd, 1) := by decide +kernel
theorem dX12_sets_171 : decode cX12_sets 171 = .ok (.istore 5, 2) := by decide +kernel
theorem dX12_sets_173 : decode cX12_sets 173 = .ok (.iload 6, 2) := by decide +kernel
theorem dX12_sets_175 : decode cX12_sets 175 = .ok (.aload_n 0, 1) := by decide +kernel
theorem dX12_sets_176 : decode cX12_sets 176 = .ok (.getfield 553, 3) := by decide +kernel
theorem dX12_sets_179 : decode cX12_sets 179 = .ok (.ifCond .ne 7, 3) := by decide +kernel
theorem dX12_sets_186 : decode cX12_sets 186 = .ok (.iconst 0, 1) := by decide +kernel
theorem dX12_sets_187 : decode cX12_sets 187 = .ok (.iadd, 1) := by decide +kernel
theorem dX12_sets_188 : decode cX12_sets 188 = .ok (.istore 6, 2) := by decide +kernel
theorem dX12_sets_190 : decode cX12_sets 190 = .ok (.aload_n 0, 1) := by decide +kernel
theorem dX12_sets_191 : decode cX12_sets 191 = .ok (.invokevirtual 607, 3) := by decide +kernel
theorem dX12_sets_194 : decode cX12_sets 194 = .ok (.ifCond .eq 7, 3) := by decide +kernel
theorem dX12_sets_197 : decode cX12_sets 197 = .ok (.aload_n 0, 1) := by decide +kernel
theorem dX12_sets_198 : decode cX12_sets 198 = .ok (.invokevirtual 613, 3) := by decide +kernel
theorem dX12_sets_201 : decode cX12_sets 201 = .ok (.iinc 9 1, 3) := by decide +kernel
theorem dX12_sets_204 : decode cX12_sets 204 = .ok (.goto (-162), 3) := by decide +kernel
theorem dX12_sets_207 : decode cX12_sets 207 = .ok (.aload_n 0, 1) := by decide +kernel
theorem dX12_sets_208 : decode cX12_sets 208 = .ok (.iload_n 2, 1) := by decide +kernel
theorem dX12_sets_209 : decode cX12_sets 209 = .ok (.putfield 443, 3) := by decide +kernel
theorem dX12_sets_212 : decode cX12_sets 212 = .ok (.aload_n 0, 1) := by decide +kernel
theorem dX12_sets_213 : decode cX12_sets 213 = .ok (.invokevirtual 227, 3) := by decide +kernel
theorem dX12_sets_216 : decode cX12_sets 216 = .ok (.pop, 1) := by decide +kernel
theorem dX12_sets_217 : decode cX12_sets 217 = .ok (.iload_n 1, 1) := by decide +kernel
theorem dX12_sets_218 : decode cX12_sets 218 = .ok (.tableswitch 57 0 5 #[38, 40, 43, 46, 49, 54], 38) := by decide +kernel
theorem dX12_sets_256 : decode cX12_sets 256 = .ok (.iload_n 3, 1) := by decide +kernel
theorem dX12_sets_257 : decode cX12_sets 257 = .ok (.ireturn, 1) := by decide +kernel
theorem dX12_sets_258 : decode cX12_sets 258 = .ok (.iload 4, 2) := by decide +kernel
theorem dX12_sets_260 : decode cX12_sets 260 = .ok (.ireturn, 1) := by decide +kernel
theorem dX12_sets_261 : decode cX12_sets 261 = .ok (.iload 5, 2) := by decide +kernel
theorem dX12_sets_263 : decode cX12_sets 263 = .ok (.ireturn, 1) := by decide +kernel
theorem dX12_sets_264 : decode cX12_sets 264 = .ok (.iload 6, 2) := by decide +kernel
theorem dX12_sets_266 : decode cX12_sets 266 = .ok (.ireturn, 1) := by decide +kernel
theorem dX12_sets_267 : decode cX12_sets 267 = .ok (.aload_n 0, 1) := by decide +kernel
theorem dX12_sets_268 : decode cX12_sets 268 = .ok (.getfield 610, 3) := by decide +kernel
theorem dX12_sets_271 : decode cX12_sets 271 = .ok (.ireturn, 1) := by decide +kernel
theorem dX12_sets_272 : decode cX12_sets 272 = .ok (.iload 7, 2) := by decide +kernel
theorem dX12_sets_274 : decode cX12_sets 274 = .ok (.ireturn, 1) := by decide +kernel
theorem dX12_sets_275 : decode cX12_sets 275 = .ok (.iload 8, 2) := by decide +kernel
theorem dX12_sets_277 : decode cX12_sets 277 = .ok (.ireturn, 1) := by decide +kernel
theorem dX12_sizes_0 : decode cX12_sizes 0 = .ok (.iconst 0, 1) := by decide +kernel
theorem dX12_sizes_1 : decode cX12_sizes 1 = .ok (.istore_n 1, 1) := by decide +kernel
theorem dX12_sizes_2 : decode cX12_sizes 2 = .ok (.iconst 0, 1) := by decide +kernel
theorem dX12_sizes_3 : decode cX12_sizes 3 = .ok (.istore_n 2, 1) := by decide +kernel
theorem dX12_sizes_4 : decode cX12_sizes 4 = .ok (.iload_n 2, 1) := by decide +kernel
theorem dX12_sizes_5 : decode cX12_sizes 5 = .ok (.aload_n 0, 1) := by decide +kernel
theorem dX12_sizes_6 : decode cX12_sizes 6 = .ok (.getfield 457, 3) := by decide +kernel
theorem dX12_sizes_9 : decode cX12_sizes 9 = .ok (.if_icmp .ge 23, 3) := by decide +kernel
theorem dX12_sizes_32 : decode cX12_sizes 32 = .ok (.iload_n 1, 1) := by decide +kernel
theorem dX12_sizes_33 : decode cX12_sizes 33 = .ok (.ireturn, 1) := by decide +kernel
theorem dX12_starts_0 : decode cX12_starts 0 = .ok (.iload_n 1, 1) := by decide +kernel
theorem dX12_starts_1 : decode cX12_starts 1 = .ok (.iconst 1, 1) := by decide +kernel
theorem dX12_starts_2 : decode cX12_starts 2 = .ok (.iload_n 2, 1) := by decide +kernel
theorem dX12_starts_3 : decode cX12_starts 3 = .ok (.invokestatic 334, 3) := by decide +kernel
theorem dX12_starts_6 : decode cX12_starts 6 = .ok (.ifCond .eq 11, 3) := by decide +kernel
theorem dX12_starts_9 : decode cX12_starts 9 = .ok (.iload_n 1, 1) := by decide +kernel
theorem dX12_starts_10 : decode cX12_starts 10 = .ok (.aload_n 0, 1) := by decide +kernel
theorem dX12_starts_11 : decode cX12_starts 11 = .ok (.getfield 313, 3) := by decide +kernel
theorem dX12_starts_14 : decode cX12_starts 14 = .ok (.if_icmp .le 5, 3) := by decide +kernel
theorem dX12_starts_17 : decode cX12_starts 17 = .ok (.iconst 0, 1) := by decide +kernel
theorem dX12_starts_18 : decode cX12_starts 18 = .ok (.ireturn, 1) := by decide +kernel
theorem dX12_stops_0 : decode cX12_stops 0 = .ok (.aload_n 0, 1) := by decide +kernel
theorem dX12_stops_1 : decode cX12_stops 1 = .ok (.iload_n 1, 1) := by decide +kernel
theorem dX12_stops_2 : decode cX12_stops 2 = .ok (.putfield 553, 3) := by decide +kernel
theorem dX12_stops_5 : decode cX12_stops 5 = .ok (.aload_n 0, 1) := by decide +kernel
theorem dX12_stops_6 : decode cX12_stops 6 = .ok (.iload_n 2, 1) := by decide +kernel
theorem dX12_stops_7 : decode cX12_stops 7 = .ok (.putfield 556, 3) := by decide +kernel
theorem dX12_stops_10 : decode cX12_stops 10 = .ok (.aload_n 0, 1) := by decide +kernel
theorem dX12_stops_11 : decode cX12_stops 11 = .ok (.iload_n 3, 1) := by decide +kernel
theorem dX12_stops_12 : decode cX12_stops 12 = .ok (.putfield 559, 3) := by decide +kernel
theorem dX12_stops_15 : decode cX12_stops 15 = .ok (.return_, 1) := by decide +kernel
theorem dX12_takes_0 : decode cX12_takes 0 = .ok (.aload_n 0, 1) := by decide +kernel
theorem dX12_takes_1 : decode cX12_takes 1 = .ok (.aload_n 0, 1) := by decide +kernel
theorem dX12_takes_2 : decode cX12_takes 2 = .ok (.getfield 257, 3) := by decide +kernel
theorem dX12_takes_5 : decode cX12_takes 5 = .ok (.iconst 1, 1) := by decide +kernel
theorem dX12_takes_6 : decode cX12_takes 6 = .ok (.isub, 1) := by decide +kernel
theorem dX12_takes_7 : decode cX12_takes 7 = .ok (.putfield 257, 3) := by decide +kernel
theorem dX12_takes_10 : decode cX12_takes 10 = .ok (.aload_n 0, 1) := by decide +kernel
theorem dX12_takes_11 : decode cX12_takes 11 = .ok (.getfield 38, 3) := by decide +kernel
theorem dX12_takes_14 : decode cX12_takes 14 = .ok (.aload_n 0, 1) := by decide +kernel
theorem dX12_takes_15 : decode cX12_takes 15 = .ok (.getfield 257, 3) := by decide +kernel
theorem dX12_takes_18 : decode cX12_takes 18 = .ok (.iaload, 1) := by decide +kernel
theorem dX12_takes_19 : decode cX12_takes 19 = .ok (.ireturn, 1) := by decide +kernel
theorem dX12_text_0 : decode cX12_text 0 = .ok (.iload_n 2, 1) := by decide +kernel
theorem dX12_text_1 : decode cX12_text 1 = .ok (.iconst 0, 1) := by decide +kernel
theorem dX12_text_2 : decode cX12_text 2 = .ok (.aload_n 0, 1) := by decide +kernel
theorem dX12_text_3 : decode cX12_text 3 = .ok (.iload_n 1, 1) := by decide +kernel
theorem dX12_text_4 : decode cX12_text 4 = .ok (.invokevirtual 718, 3) := by decide +kernel
theorem dX12_text_7 : decode cX12_text 7 = .ok (.iconst 1, 1) := by decide +kernel
theorem dX12_text_8 : decode cX12_text 8 = .ok (.isub, 1) := by decide +kernel
theorem dX12_text_9 : decode cX12_text 9 = .ok (.invokestatic 334, 3) := by decide +kernel
theorem dX12_text_12 : decode cX12_text 12 = .ok (.ifCond .eq 8, 3) := by decide +kernel
theorem dX12_text_15 : decode cX12_text 15 = .ok (.iload_n 3, 1) := by decide +kernel
theorem dX12_text_16 : decode cX12_text 16 = .ok (.iconst (-1), 1) := by decide +kernel
theorem dX12_text_17 : decode cX12_text 17 = .ok (.if_icmp .ge 5, 3) := by decide +kernel
theorem dX12_text_20 : decode cX12_text 20 = .ok (.iconst (-1), 1) := by decide +kernel
theorem dX12_text_21 : decode cX12_text 21 = .ok (.ireturn, 1) := by decide +kernel
theorem dX12_text_22 : decode cX12_text 22 = .ok (.aload_n 0, 1) := by decide +kernel
theorem dX12_text_23 : decode cX12_text 23 = .ok (.invokevirtual 585, 3) := by decide +kernel
theorem dX12_text_26 : decode cX12_text 26 = .ok (.aload_n 0, 1) := by decide +kernel
theorem dX12_text_27 : decode cX12_text 27 = .ok (.iconst 0, 1) := by decide +kernel
theorem dX12_text_28 : decode cX12_text 28 = .ok (.putfield 669, 3) := by decide +kernel
theorem dX12_text_31 : decode cX12_text 31 = .ok (.iload_n 1, 1) := by decide +kernel
theorem dX12_text_32 : decode cX12_text 32 = .ok (.tableswitch 148 0 6 #[44, 56, 69, 97, 110, 123, 136], 44) := by decide +kernel
theorem dX12_text_88 : decode cX12_text 88 = .ok (.aload_n 0, 1) := by decide +kernel
theorem dX12_text_89 : decode cX12_text 89 = .ok (.aload_n 0, 1) := by decide +kernel
theorem dX12_text_90 : decode cX12_text 90 = .ok (.getfield 127, 3) := by decide +kernel
theorem dX12_text_93 : decode cX12_text 93 = .ok (.iload_n 2, 1) := by decide +kernel
theorem dX12_text_94 : decode cX12_text 94 = .ok (.iaload, 1) := by decide +kernel
theorem dX12_text_95 : decode cX12_text 95 = .ok (.invokevirtual 712, 3) := by decide +kernel
theorem dX12_text_98 : decode cX12_text 98 = .ok (.goto 98, 3) := by decide +kernel
theorem dX12_text_180 : decode cX12_text 180 = .ok (.aload_n 0, 1) := by decide +kernel
theorem dX12_text_181 : decode cX12_text 181 = .ok (.iload_n 2, 1) := by decide +kernel
theorem dX12_text_182 : decode cX12_text 182 = .ok (.iload_n 1, 1) := by decide +kernel
theorem dX12_text_183 : decode cX12_text 183 = .ok (.bipush 8, 2) := by decide +kernel
theorem dX12_text_185 : decode cX12_text 185 = .ok (.if_icmp .ne 7, 3) := by decide +kernel
theorem dX12_text_188 : decode cX12_text 188 = .ok (.iconst 1, 1) := by decide +kernel
theorem dX12_text_189 : decode cX12_text 189 = .ok (.goto 4, 3) := by decide +kernel
theorem dX12_text_192 : decode cX12_text 192 = .ok (.iconst 0, 1) := by decide +kernel
theorem dX12_text_193 : decode cX12_text 193 = .ok (.invokevirtual 724, 3) := by decide +kernel
theorem dX12_text_196 : decode cX12_text 196 = .ok (.iload_n 3, 1) := by decide +kernel
theorem dX12_text_197 : decode cX12_text 197 = .ok (.iconst (-1), 1) := by decide +kernel
theorem dX12_text_198 : decode cX12_text 198 = .ok (.if_icmp .ne 10, 3) := by decide +kernel
theorem dX12_text_201 : decode cX12_text 201 = .ok (.aload_n 0, 1) := by decide +kernel
theorem dX12_text_202 : decode cX12_text 202 = .ok (.getfield 669, 3) := by decide +kernel
theorem dX12_text_205 : decode cX12_text 205 = .ok (.goto 22, 3) := by decide +kernel
theorem dX12_text_208 : decode cX12_text 208 = .ok (.iload_n 3, 1) := by decide +kernel
theorem dX12_text_209 : decode cX12_text 209 = .ok (.aload_n 0, 1) := by decide +kernel
theorem dX12_text_210 : decode cX12_text 210 = .ok (.getfield 669, 3) := by decide +kernel
theorem dX12_text_213 : decode cX12_text 213 = .ok (.if_icmp .ge 12, 3) := by decide +kernel
theorem dX12_text_216 : decode cX12_text 216 = .ok (.aload_n 0, 1) := by decide +kernel
theorem dX12_text_217 : decode cX12_text 217 = .ok (.getfield 217, 3) := by decide +kernel
theorem dX12_text_220 : decode cX12_text 220 = .ok (.iload_n 3, 1) := by decide +kernel
theorem dX12_text_221 : decode cX12_text 221 = .ok (.baload, 1) := by decide +kernel
theorem dX12_text_222 : decode cX12_text 222 = .ok (.goto 5, 3) := by decide +kernel
theorem dX12_text_225 : decode cX12_text 225 = .ok (.bipush (-4), 2) := by decide +kernel
theorem dX12_text_227 : decode cX12_text 227 = .ok (.ireturn, 1) := by decide +kernel
theorem dX12_then_0 : decode cX12_then 0 = .ok (.aload_n 0, 1) := by decide +kernel
theorem dX12_then_1 : decode cX12_then 1 = .ok (.iload_n 1, 1) := by decide +kernel
theorem dX12_then_2 : decode cX12_then 2 = .ok (.invokevirtual 654, 3) := by decide +kernel
theorem dX12_then_5 : decode cX12_then 5 = .ok (.ifCond .eq 11, 3) := by decide +kernel
theorem dX12_then_16 : decode cX12_then 16 = .ok (.iconst (-1), 1) := by decide +kernel
theorem dX12_then_17 : decode cX12_then 17 = .ok (.ireturn, 1) := by decide +kernel
theorem dX12_trace_0 : decode cX12_trace 0 = .ok (.iload_n 1, 1) := by decide +kernel
theorem dX12_trace_1 : decode cX12_trace 1 = .ok (.iconst 0, 1) := by decide +kernel
theorem dX12_trace_2 : decode cX12_trace 2 = .ok (.iconst 2, 1) := by decide +kernel
theorem dX12_trace_3 : decode cX12_trace 3 = .ok (.invokestatic 334, 3) := by decide +kernel
theorem dX12_trace_6 : decode cX12_trace 6 = .ok (.ifCond .eq 23, 3) := by decide +kernel
theorem dX12_trace_9 : decode cX12_trace 9 = .ok (.iload_n 2, 1) := by decide +kernel
theorem dX12_trace_10 : decode cX12_trace 10 = .ok (.iconst 0, 1) := by decide +kernel
theorem dX12_trace_11 : decode cX12_trace 11 = .ok (.sipush 1500, 3) := by decide +kernel
theorem dX12_trace_14 : decode cX12_trace 14 = .ok (.invokestatic 334, 3) := by decide +kernel
theorem dX12_trace_17 : decode cX12_trace 17 = .ok (.ifCond .eq 12, 3) := by decide +kernel
theorem dX12_trace_20 : decode cX12_trace 20 = .ok (.iload_n 3, 1) := by decide +kernel
theorem dX12_trace_21 : decode cX12_trace 21 = .ok (.iconst 0, 1) := by decide +kernel
theorem dX12_trace_22 : decode cX12_trace 22 = .ok (.iconst 3, 1) := by decide +kernel
theorem dX12_trace_23 : decode cX12_trace 23 = .ok (.invokestatic 334, 3) := by decide +kernel
theorem dX12_trace_26 : decode cX12_trace 26 = .ok (.ifCond .ne 5, 3) := by decide +kernel
theorem dX12_trace_29 : decode cX12_trace 29 = .ok (.iconst (-1), 1) := by decide +kernel
theorem dX12_trace_30 : decode cX12_trace 30 = .ok (.ireturn, 1) := by decide +kernel
theorem dX12_trace_31 : decode cX12_trace 31 = .ok (.aload_n 0, 1) := by decide +kernel
theorem dX12_trace_32 : decode cX12_trace 32 = .ok (.iload_n 1, 1) := by decide +kernel
theorem dX12_trace_33 : decode cX12_trace 33 = .ok (.iload_n 2, 1) := by decide +kernel
theorem dX12_trace_34 : decode cX12_trace 34 = .ok (.invokevirtual 604, 3) := by decide +kernel
theorem dX12_trace_37 : decode cX12_trace 37 = .ok (.aload_n 0, 1) := by decide +kernel
theorem dX12_trace_38 : decode cX12_trace 38 = .ok (.getfield 531, 3) := by decide +kernel
theorem dX12_trace_41 : decode cX12_trace 41 = .ok (.ifCond .eq 14, 3) := by decide +kernel
theorem dX12_trace_44 : decode cX12_trace 44 = .ok (.aload_n 0, 1) := by decide +kernel
theorem dX12_trace_45 : decode cX12_trace 45 = .ok (.getfield 553, 3) := by decide +kernel
theorem dX12_trace_48 : decode cX12_trace 48 = .ok (.ifCond .ne 7, 3) := by decide +kernel
theorem dX12_trace_51 : decode cX12_trace 51 = .ok (.iconst 1, 1) := by decide +kernel
theorem dX12_trace_52 : decode cX12_trace 52 = .ok (.goto 4, 3) := by decide +kernel
theorem dX12_trace_55 : decode cX12_trace 55 = .ok (.iconst 0, 1) := by decide +kernel
theorem dX12_trace_56 : decode cX12_trace 56 = .ok (.istore 4, 2) := by decide +kernel
theorem dX12_trace_58 : decode cX12_trace 58 = .ok (.iload_n 3, 1) := by decide +kernel
theorem dX12_trace_59 : decode cX12_trace 59 = .ok (.tableswitch 50 0 2 #[25, 30, 35], 25) := by decide +kernel
theorem dX12_trace_84 : decode cX12_trace 84 = .ok (.aload_n 0, 1) := by decide +kernel
theorem dX12_trace_85 : decode cX12_trace 85 = .ok (.getfield 506, 3) := by decide +kernel
theorem dX12_trace_88 : decode cX12_trace 88 = .ok (.ireturn, 1) := by decide +kernel
theorem dX12_trace_89 : decode cX12_trace 89 = .ok (.aload_n 0, 1) := by decide +kernel
theorem dX12_trace_90 : decode cX12_trace 90 = .ok (.getfield 509, 3) := by decide +kernel
theorem dX12_trace_93 : decode cX12_trace 93 = .ok (.ireturn, 1) := by decide +kernel
theorem dX12_trace_94 : decode cX12_trace 94 = .ok (.iload 4, 2) := by decide +kernel
theorem dX12_trace_96 : decode cX12_trace 96 = .ok (.ifCond .eq 10, 3) := by decide +kernel
theorem dX12_trace_99 : decode cX12_trace 99 = .ok (.aload_n 0, 1) := by decide +kernel
theorem dX12_trace_100 : decode cX12_trace 100 = .ok (.getfield 535, 3) := by decide +kernel
theorem dX12_trace_103 : decode cX12_trace 103 = .ok (.goto 5, 3) := by decide +kernel
theorem dX12_trace_106 : decode cX12_trace 106 = .ok (.bipush (-2), 2) := by decide +kernel
theorem dX12_trace_108 : decode cX12_trace 108 = .ok (.ireturn, 1) := by decide +kernel
theorem dX12_trace_109 : decode cX12_trace 109 = .ok (.iload 4, 2) := by decide +kernel
theorem dX12_trace_111 : decode cX12_trace 111 = .ok (.ifCond .eq 8, 3) := by decide +kernel
theorem dX12_trace_114 : decode cX12_trace 114 = .ok (.bipush (-2), 2) := by decide +kernel
theorem dX12_trace_116 : decode cX12_trace 116 = .ok (.goto 7, 3) := by decide +kernel
theorem dX12_trace_119 : decode cX12_trace 119 = .ok (.aload_n 0, 1) := by decide +kernel
theorem dX12_trace_120 : decode cX12_trace 120 = .ok (.getfield 541, 3) := by decide +kernel
theorem dX12_trace_123 : decode cX12_trace 123 = .ok (.ireturn, 1) := by decide +kernel
theorem dX12_tries_0 : decode cX12_tries 0 = .ok (.iload_n 1, 1) := by decide +kernel
theorem dX12_tries_1 : decode cX12_tries 1 = .ok (.iconst 0, 1) := by decide +kernel
theorem dX12_tries_2 : decode cX12_tries 2 = .ok (.aload_n 0, 1) := by decide +kernel
theorem dX12_tries_3 : decode cX12_tries 3 = .ok (.getfield 99, 3) := by decide +kernel
theorem dX12_tries_6 : decode cX12_tries 6 = .ok (.aload_n 0, 1) := by decide +kernel
theorem dX12_tries_7 : decode cX12_tries 7 = .ok (.getfield 392, 3) := by decide +kernel
theorem dX12_tries_10 : decode cX12_tries 10 = .ok (.iaload, 1) := by decide +kernel
theorem dX12_tries_11 : decode cX12_tries 11 = .ok (.iconst 1, 1) := by decide +kernel
theorem dX12_tries_12 : decode cX12_tries 12 = .ok (.isub, 1) := by decide +kernel
theorem dX12_tries_13 : decode cX12_tries 13 = .ok (.invokestatic 334, 3) := by decide +kernel
theorem dX12_tries_16 : decode cX12_tries 16 = .ok (.ifCond .eq 12, 3) := by decide +kernel
theorem dX12_tries_28 : decode cX12_tries 28 = .ok (.iconst (-1), 1) := by decide +kernel
theorem dX12_tries_29 : decode cX12_tries 29 = .ok (.ireturn, 1) := by decide +kernel
theorem dX12_type_0 : decode cX12_type 0 = .ok (.aload_n 0, 1) := by decide +kernel
theorem dX12_type_1 : decode cX12_type 1 = .ok (.iload_n 1, 1) := by decide +kernel
theorem dX12_type_2 : decode cX12_type 2 = .ok (.bipush 100, 2) := by decide +kernel
theorem dX12_type_4 : decode cX12_type 4 = .ok (.invokevirtual 494, 3) := by decide +kernel
theorem dX12_type_7 : decode cX12_type 7 = .ok (.ifCond .ne 5, 3) := by decide +kernel
theorem dX12_type_10 : decode cX12_type 10 = .ok (.iconst (-1), 1) := by decide +kernel
theorem dX12_type_11 : decode cX12_type 11 = .ok (.ireturn, 1) := by decide +kernel
theorem dX12_typed4_0 : decode cX12_typed4 0 = .ok (.iconst 3, 1) := by decide +kernel
theorem dX12_typed4_1 : decode cX12_typed4 1 = .ok (.istore_n 2, 1) := by decide +kernel
theorem dX12_typed4_2 : decode cX12_typed4 2 = .ok (.iload_n 2, 1) := by decide +kernel
theorem dX12_typed4_3 : decode cX12_typed4 3 = .ok (.ifCond .lt 35, 3) := by decide +kernel
theorem dX12_typed4_6 : decode cX12_typed4 6 = .ok (.aload_n 0, 1) := by decide +kernel
theorem dX12_typed4_7 : decode cX12_typed4 7 = .ok (.getfield 68, 3) := by decide +kernel
theorem dX12_typed4_10 : decode cX12_typed4 10 = .ok (.aload_n 0, 1) := by decide +kernel
theorem dX12_typed4_11 : decode cX12_typed4 11 = .ok (.getfield 313, 3) := by decide +kernel
theorem dX12_typed4_14 : decode cX12_typed4 14 = .ok (.iload_n 1, 1) := by decide +kernel
theorem dX12_typed4_15 : decode cX12_typed4 15 = .ok (.bipush 8, 2) := by decide +kernel
theorem dX12_typed4_17 : decode cX12_typed4 17 = .ok (.iload_n 2, 1) := by decide +kernel
theorem dX12_typed4_18 : decode cX12_typed4 18 = .ok (.imul, 1) := by decide +kernel
theorem dX12_typed4_19 : decode cX12_typed4 19 = .ok (.ishr, 1) := by decide +kernel
theorem dX12_typed4_20 : decode cX12_typed4 20 = .ok (.i2b, 1) := by decide +kernel
theorem dX12_typed4_21 : decode cX12_typed4 21 = .ok (.bastore, 1) := by decide +kernel
theorem dX12_typed4_22 : decode cX12_typed4 22 = .ok (.aload_n 0, 1) := by decide +kernel
theorem dX12_typed4_23 : decode cX12_typed4 23 = .ok (.aload_n 0, 1) := by decide +kernel
theorem dX12_typed4_24 : decode cX12_typed4 24 = .ok (.getfield 313, 3) := by decide +kernel
theorem dX12_typed4_27 : decode cX12_typed4 27 = .ok (.iconst 1, 1) := by decide +kernel
theorem dX12_typed4_28 : decode cX12_typed4 28 = .ok (.iadd, 1) := by decide +kernel
theorem dX12_typed4_29 : decode cX12_typed4 29 = .ok (.putfield 313, 3) := by decide +kernel
theorem dX12_typed4_32 : decode cX12_typed4 32 = .ok (.iinc 2 (-1), 3) := by decide +kernel
theorem dX12_typed4_35 : decode cX12_typed4 35 = .ok (.goto (-33), 3) := by decide +kernel
theorem dX12_typed4_38 : decode cX12_typed4 38 = .ok (.return_, 1) := by decide +kernel
theorem dX12_typedMany_0 : decode cX12_typedMany 0 = .ok (.iconst 0, 1) := by decide +kernel
theorem dX12_typedMany_1 : decode cX12_typedMany 1 = .ok (.istore_n 1, 1) := by decide +kernel
theorem dX12_typedMany_2 : decode cX12_typedMany 2 = .ok (.iconst 0, 1) := by decide +kernel
theorem dX12_typedMany_3 : decode cX12_typedMany 3 = .ok (.istore_n 2, 1) := by decide +kernel
theorem dX12_typedMany_4 : decode cX12_typedMany 4 = .ok (.iload_n 2, 1) := by decide +kernel
theorem dX12_typedMany_5 : decode cX12_typedMany 5 = .ok (.aload_n 0, 1) := by decide +kernel
theorem dX12_typedMany_6 : decode cX12_typedMany 6 = .ok (.getfield 96, 3) := by decide +kernel
theorem dX12_typedMany_9 : decode cX12_typedMany 9 = .ok (.aload_n 0, 1) := by decide +kernel
theorem dX12_typedMany_10 : decode cX12_typedMany 10 = .ok (.getfield 392, 3) := by decide +kernel
theorem dX12_typedMany_13 : decode cX12_typedMany 13 = .ok (.iaload, 1) := by decide +kernel
theorem dX12_typedMany_14 : decode cX12_typedMany 14 = .ok (.if_icmp .ge 26, 3) := by decide +kernel
theorem dX12_typedMany_17 : decode cX12_typedMany 17 = .ok (.iload_n 1, 1) := by decide +kernel
theorem dX12_typedMany_18 : decode cX12_typedMany 18 = .ok (.aload_n 0, 1) := by decide +kernel
theorem dX12_typedMany_19 : decode cX12_typedMany 19 = .ok (.getfield 154, 3) := by decide +kernel
theorem dX12_typedMany_22 : decode cX12_typedMany 22 = .ok (.iload_n 2, 1) := by decide +kernel
theorem dX12_typedMany_23 : decode cX12_typedMany 23 = .ok (.baload, 1) := by decide +kernel
theorem dX12_typedMany_24 : decode cX12_typedMany 24 = .ok (.ifCond .eq 7, 3) := by decide +kernel
theorem dX12_typedMany_27 : decode cX12_typedMany 27 = .ok (.iconst 1, 1) := by decide +kernel
theorem dX12_typedMany_28 : decode cX12_typedMany 28 = .ok (.goto 4, 3) := by decide +kernel
theorem dX12_typedMany_32 : decode cX12_typedMany 32 = .ok (.iadd, 1) := by decide +kernel
theorem dX12_typedMany_33 : decode cX12_typedMany 33 = .ok (.istore_n 1, 1) := by decide +kernel
theorem dX12_typedMany_34 : decode cX12_typedMany 34 = .ok (.iinc 2 1, 3) := by decide +kernel
theorem dX12_typedMany_37 : decode cX12_typedMany 37 = .ok (.goto (-33), 3) := by decide +kernel
theorem dX12_typedMany_40 : decode cX12_typedMany 40 = .ok (.iload_n 1, 1) := by decide +kernel
theorem dX12_typedMany_41 : decode cX12_typedMany 41 = .ok (.ireturn, 1) := by decide +kernel
theorem dX1_again_0 : decode cX1_again 0 = .ok (.aload_n 0, 1) := by decide +kernel
theorem dX1_again_1 : decode cX1_again 1 = .ok (.getfield 21, 3) := by decide +kernel
theorem dX1_again_4 : decode cX1_again 4 = .ok (.getfield 84, 3) := by decide +kernel
theorem dX1_again_7 : decode cX1_again 7 = .ok (.aload_n 0, 1) := by decide +kernel
theorem dX1_again_8 : decode cX1_again 8 = .ok (.getfield 72, 3) := by decide +kernel
theorem dX1_again_11 : decode cX1_again 11 = .ok (.invokevirtual 88, 3) := by decide +kernel
theorem dX1_again_14 : decode cX1_again 14 = .ok (.aload_n 0, 1) := by decide +kernel
theorem dX1_again_15 : decode cX1_again 15 = .ok (.getfield 28, 3) := by decide +kernel
theorem dX1_again_18 : decode cX1_again 18 = .ok (.getfield 93, 3) := by decide +kernel
theorem dX1_again_21 : decode cX1_again 21 = .ok (.iconst 3, 1) := by decide +kernel
theorem dX1_again_22 : decode cX1_again 22 = .ok (.invokevirtual 88, 3) := by decide +kernel
theorem dX1_again_25 : decode cX1_again 25 = .ok (.aload_n 0, 1) := by decide +kernel
theorem dX1_again_26 : decode cX1_again 26 = .ok (.getfield 37, 3) := by decide +kernel
theorem dX1_again_29 : decode cX1_again 29 = .ok (.iconst 0, 1) := by decide +kernel
theorem dX1_again_30 : decode cX1_again 30 = .ok (.invokevirtual 94, 3) := by decide +kernel
theorem dX1_again_33 : decode cX1_again 33 = .ok (.aload_n 0, 1) := by decide +kernel
theorem dX1_again_34 : decode cX1_again 34 = .ok (.getfield 45, 3) := by decide +kernel
theorem dX1_again_37 : decode cX1_again 37 = .ok (.iconst (-1), 1) := by decide +kernel
theorem dX1_again_38 : decode cX1_again 38 = .ok (.invokestatic 97, 3) := by decide +kernel
theorem dX1_again_41 : decode cX1_again 41 = .ok (.iconst 0, 1) := by decide +kernel
theorem dX1_again_42 : decode cX1_again 42 = .ok (.istore_n 1, 1) := by decide +kernel
theorem dX1_again_43 : decode cX1_again 43 = .ok (.iload_n 1, 1) := by decide +kernel
theorem dX1_again_44 : decode cX1_again 44 = .ok (.aload_n 0, 1) := by decide +kernel
theorem dX1_again_45 : decode cX1_again 45 = .ok (.getfield 12, 3) := by decide +kernel
theorem dX1_again_48 : decode cX1_again 48 = .ok (.getfield 103, 3) := by decide +kernel
theorem dX1_again_51 : decode cX1_again 51 = .ok (.if_icmp .ge 48, 3) := by decide +kernel
theorem dX1_again_54 : decode cX1_again 54 = .ok (.aload_n 0, 1) := by decide +kernel
theorem dX1_again_55 : decode cX1_again 55 = .ok (.getfield 12, 3) := by decide +kernel
theorem dX1_again_58 : decode cX1_again 58 = .ok (.getfield 106, 3) := by decide +kernel
theorem dX1_again_61 : decode cX1_again 61 = .ok (.iload_n 1, 1) := by decide +kernel
theorem dX1_again_62 : decode cX1_again 62 = .ok (.invokestatic 109, 3) := by decide +kernel
theorem dX1_again_65 : decode cX1_again 65 = .ok (.istore_n 2, 1) := by decide +kernel
theorem dX1_again_66 : decode cX1_again 66 = .ok (.aload_n 0, 1) := by decide +kernel
theorem dX1_again_67 : decode cX1_again 67 = .ok (.iload_n 2, 1) := by decide +kernel
theorem dX1_again_68 : decode cX1_again 68 = .ok (.invokevirtual 113, 3) := by decide +kernel
theorem dX1_again_71 : decode cX1_again 71 = .ok (.istore_n 3, 1) := by decide +kernel
theorem dX1_again_72 : decode cX1_again 72 = .ok (.iload_n 3, 1) := by decide +kernel
theorem dX1_again_73 : decode cX1_again 73 = .ok (.ifCond .ge 5, 3) := by decide +kernel
theorem dX1_again_78 : decode cX1_again 78 = .ok (.aload_n 0, 1) := by decide +kernel
theorem dX1_again_79 : decode cX1_again 79 = .ok (.getfield 41, 3) := by decide +kernel
theorem dX1_again_82 : decode cX1_again 82 = .ok (.iload_n 2, 1) := by decide +kernel
theorem dX1_again_83 : decode cX1_again 83 = .ok (.iload_n 3, 1) := by decide +kernel
theorem dX1_again_84 : decode cX1_again 84 = .ok (.invokestatic 117, 3) := by decide +kernel
theorem dX1_again_87 : decode cX1_again 87 = .ok (.aload_n 0, 1) := by decide +kernel
theorem dX1_again_88 : decode cX1_again 88 = .ok (.iload_n 2, 1) := by decide +kernel
theorem dX1_again_89 : decode cX1_again 89 = .ok (.iload_n 3, 1) := by decide +kernel
theorem dX1_again_90 : decode cX1_again 90 = .ok (.invokevirtual 121, 3) := by decide +kernel
theorem dX1_again_93 : decode cX1_again 93 = .ok (.iinc 1 1, 3) := by decide +kernel
theorem dX1_again_96 : decode cX1_again 96 = .ok (.goto (-53), 3) := by decide +kernel
theorem dX1_again_99 : decode cX1_again 99 = .ok (.aload_n 0, 1) := by decide +kernel
theorem dX1_again_100 : decode cX1_again 100 = .ok (.aload_n 0, 1) := by decide +kernel
theorem dX1_again_101 : decode cX1_again 101 = .ok (.getfield 28, 3) := by decide +kernel
theorem dX1_again_104 : decode cX1_again 104 = .ok (.getfield 125, 3) := by decide +kernel
theorem dX1_again_107 : decode cX1_again 107 = .ok (.getfield 68, 3) := by decide +kernel
theorem dX1_again_110 : decode cX1_again 110 = .ok (.putfield 126, 3) := by decide +kernel
theorem dX1_again_113 : decode cX1_again 113 = .ok (.iconst (-1), 1) := by decide +kernel
theorem dX1_again_114 : decode cX1_again 114 = .ok (.ireturn, 1) := by decide +kernel
theorem dX1_asTold_0 : decode cX1_asTold 0 = .ok (.aload_n 0, 1) := by decide +kernel
theorem dX1_asTold_1 : decode cX1_asTold 1 = .ok (.aload_n 0, 1) := by decide +kernel
theorem dX1_asTold_2 : decode cX1_asTold 2 = .ok (.getfield 21, 3) := by decide +kernel
theorem dX1_asTold_5 : decode cX1_asTold 5 = .ok (.getfield 65, 3) := by decide +kernel
theorem dX1_asTold_8 : decode cX1_asTold 8 = .ok (.getfield 68, 3) := by decide +kernel
theorem dX1_asTold_11 : decode cX1_asTold 11 = .ok (.putfield 72, 3) := by decide +kernel
theorem dX1_asTold_14 : decode cX1_asTold 14 = .ok (.aload_n 0, 1) := by decide +kernel
theorem dX1_asTold_15 : decode cX1_asTold 15 = .ok (.iconst 0, 1) := by decide +kernel
theorem dX1_asTold_16 : decode cX1_asTold 16 = .ok (.putfield 75, 3) := by decide +kernel
theorem dX1_asTold_19 : decode cX1_asTold 19 = .ok (.aload_n 0, 1) := by decide +kernel
theorem dX1_asTold_20 : decode cX1_asTold 20 = .ok (.iconst (-1), 1) := by decide +kernel
theorem dX1_asTold_21 : decode cX1_asTold 21 = .ok (.putfield 78, 3) := by decide +kernel
theorem dX1_asTold_24 : decode cX1_asTold 24 = .ok (.aload_n 0, 1) := by decide +kernel
theorem dX1_asTold_25 : decode cX1_asTold 25 = .ok (.iconst 0, 1) := by decide +kernel
theorem dX1_asTold_26 : decode cX1_asTold 26 = .ok (.putfield 81, 3) := by decide +kernel
theorem dX1_asTold_29 : decode cX1_asTold 29 = .ok (.return_, 1) := by decide +kernel
theorem dX1_castsOnParts_0 : decode cX1_castsOnParts 0 = .ok (.iconst 0, 1) := by decide +kernel
theorem dX1_castsOnParts_1 : decode cX1_castsOnParts 1 = .ok (.istore_n 2, 1) := by decide +kernel
theorem dX1_castsOnParts_2 : decode cX1_castsOnParts 2 = .ok (.iconst 0, 1) := by decide +kernel
theorem dX1_castsOnParts_3 : decode cX1_castsOnParts 3 = .ok (.istore_n 3, 1) := by decide +kernel
theorem dX1_castsOnParts_4 : decode cX1_castsOnParts 4 = .ok (.iload_n 3, 1) := by decide +kernel
theorem dX1_castsOnParts_5 : decode cX1_castsOnParts 5 = .ok (.iconst 3, 1) := by decide +kernel
theorem dX1_castsOnParts_6 : decode cX1_castsOnParts 6 = .ok (.if_icmp .ge 40, 3) := by decide +kernel
theorem dX1_castsOnParts_9 : decode cX1_castsOnParts 9 = .ok (.aload_n 0, 1) := by decide +kernel
theorem dX1_castsOnParts_10 : decode cX1_castsOnParts 10 = .ok (.getfield 12, 3) := by decide +kernel
theorem dX1_castsOnParts_13 : decode cX1_castsOnParts 13 = .ok (.iload_n 1, 1) := by decide +kernel
theorem dX1_castsOnParts_14 : decode cX1_castsOnParts 14 = .ok (.iload_n 3, 1) := by decide +kernel
theorem dX1_castsOnParts_15 : decode cX1_castsOnParts 15 = .ok (.invokevirtual 133, 3) := by decide +kernel
theorem dX1_castsOnParts_18 : decode cX1_castsOnParts 18 = .ok (.istore 4, 2) := by decide +kernel
theorem dX1_castsOnParts_20 : decode cX1_castsOnParts 20 = .ok (.iload 4, 2) := by decide +kernel
theorem dX1_castsOnParts_22 : decode cX1_castsOnParts 22 = .ok (.ifCond .lt 18, 3) := by decide +kernel
theorem dX1_castsOnParts_40 : decode cX1_castsOnParts 40 = .ok (.iinc 3 1, 3) := by decide +kernel
theorem dX1_castsOnParts_43 : decode cX1_castsOnParts 43 = .ok (.goto (-39), 3) := by decide +kernel
theorem dX1_castsOnParts_46 : decode cX1_castsOnParts 46 = .ok (.iload_n 2, 1) := by decide +kernel
theorem dX1_castsOnParts_47 : decode cX1_castsOnParts 47 = .ok (.ireturn, 1) := by decide +kernel
theorem dX1_init_0 : decode cX1_init 0 = .ok (.aload_n 0, 1) := by decide +kernel
theorem dX1_init_1 : decode cX1_init 1 = .ok (.invokespecial 3, 3) := by decide +kernel
theorem dX1_init_4 : decode cX1_init 4 = .ok (.aload_n 0, 1) := by decide +kernel
theorem dX1_init_5 : decode cX1_init 5 = .ok (.new 9, 3) := by decide +kernel
theorem dX1_init_8 : decode cX1_init 8 = .ok (.dup, 1) := by decide +kernel
theorem dX1_init_9 : decode cX1_init 9 = .ok (.invokespecial 11, 3) := by decide +kernel
theorem dX1_init_12 : decode cX1_init 12 = .ok (.putfield 12, 3) := by decide +kernel
theorem dX1_init_15 : decode cX1_init 15 = .ok (.aload_n 0, 1) := by decide +kernel
theorem dX1_init_16 : decode cX1_init 16 = .ok (.new 18, 3) := by decide +kernel
theorem dX1_init_19 : decode cX1_init 19 = .ok (.dup, 1) := by decide +kernel
theorem dX1_init_20 : decode cX1_init 20 = .ok (.invokespecial 20, 3) := by decide +kernel
theorem dX1_init_23 : decode cX1_init 23 = .ok (.putfield 21, 3) := by decide +kernel
theorem dX1_init_26 : decode cX1_init 26 = .ok (.aload_n 0, 1) := by decide +kernel
theorem dX1_init_27 : decode cX1_init 27 = .ok (.new 25, 3) := by decide +kernel
theorem dX1_init_30 : decode cX1_init 30 = .ok (.dup, 1) := by decide +kernel
theorem dX1_init_31 : decode cX1_init 31 = .ok (.invokespecial 27, 3) := by decide +kernel
theorem dX1_init_34 : decode cX1_init 34 = .ok (.putfield 28, 3) := by decide +kernel
theorem dX1_init_37 : decode cX1_init 37 = .ok (.aload_n 0, 1) := by decide +kernel
theorem dX1_init_38 : decode cX1_init 38 = .ok (.new 32, 3) := by decide +kernel
theorem dX1_init_41 : decode cX1_init 41 = .ok (.dup, 1) := by decide +kernel
theorem dX1_init_42 : decode cX1_init 42 = .ok (.bipush 16, 2) := by decide +kernel
theorem dX1_init_44 : decode cX1_init 44 = .ok (.invokespecial 34, 3) := by decide +kernel
theorem dX1_init_47 : decode cX1_init 47 = .ok (.putfield 37, 3) := by decide +kernel
theorem dX1_init_50 : decode cX1_init 50 = .ok (.aload_n 0, 1) := by decide +kernel
theorem dX1_init_51 : decode cX1_init 51 = .ok (.bipush 60, 2) := by decide +kernel
theorem dX1_init_53 : decode cX1_init 53 = .ok (.newarray .int, 2) := by decide +kernel
theorem dX1_init_55 : decode cX1_init 55 = .ok (.putfield 41, 3) := by decide +kernel
theorem dX1_init_58 : decode cX1_init 58 = .ok (.aload_n 0, 1) := by decide +kernel
theorem dX1_init_59 : decode cX1_init 59 = .ok (.bipush 60, 2) := by decide +kernel
theorem dX1_init_61 : decode cX1_init 61 = .ok (.newarray .int, 2) := by decide +kernel
theorem dX1_init_63 : decode cX1_init 63 = .ok (.putfield 45, 3) := by decide +kernel
theorem dX1_init_66 : decode cX1_init 66 = .ok (.aload_n 0, 1) := by decide +kernel
theorem dX1_init_67 : decode cX1_init 67 = .ok (.bipush 60, 2) := by decide +kernel
theorem dX1_init_69 : decode cX1_init 69 = .ok (.newarray .boolean, 2) := by decide +kernel
theorem dX1_init_71 : decode cX1_init 71 = .ok (.putfield 48, 3) := by decide +kernel
theorem dX1_init_74 : decode cX1_init 74 = .ok (.aload_n 0, 1) := by decide +kernel
theorem dX1_init_75 : decode cX1_init 75 = .ok (.getfield 12, 3) := by decide +kernel
theorem dX1_init_78 : decode cX1_init 78 = .ok (.invokevirtual 52, 3) := by decide +kernel
theorem dX1_init_81 : decode cX1_init 81 = .ok (.aload_n 0, 1) := by decide +kernel
theorem dX1_init_82 : decode cX1_init 82 = .ok (.getfield 12, 3) := by decide +kernel
theorem dX1_init_85 : decode cX1_init 85 = .ok (.aload_n 0, 1) := by decide +kernel
theorem dX1_init_86 : decode cX1_init 86 = .ok (.getfield 12, 3) := by decide +kernel
theorem dX1_init_89 : decode cX1_init 89 = .ok (.iconst 0, 1) := by decide +kernel
theorem dX1_init_90 : decode cX1_init 90 = .ok (.iconst (-1), 1) := by decide +kernel
theorem dX1_init_91 : decode cX1_init 91 = .ok (.iconst 0, 1) := by decide +kernel
theorem dX1_init_92 : decode cX1_init 92 = .ok (.iconst 0, 1) := by decide +kernel
theorem dX1_init_93 : decode cX1_init 93 = .ok (.invokevirtual 55, 3) := by decide +kernel
theorem dX1_init_96 : decode cX1_init 96 = .ok (.invokevirtual 59, 3) := by decide +kernel
theorem dX1_init_99 : decode cX1_init 99 = .ok (.aload_n 0, 1) := by decide +kernel
theorem dX1_init_100 : decode cX1_init 100 = .ok (.invokevirtual 62, 3) := by decide +kernel
theorem dX1_init_103 : decode cX1_init 103 = .ok (.return_, 1) := by decide +kernel
theorem dX1_isTyped_0 : decode cX1_isTyped 0 = .ok (.iload_n 1, 1) := by decide +kernel
theorem dX1_isTyped_1 : decode cX1_isTyped 1 = .ok (.ifCond .lt 25, 3) := by decide +kernel
theorem dX1_isTyped_4 : decode cX1_isTyped 4 = .ok (.iload_n 1, 1) := by decide +kernel
theorem dX1_isTyped_5 : decode cX1_isTyped 5 = .ok (.aload_n 0, 1) := by decide +kernel
theorem dX1_isTyped_6 : decode cX1_isTyped 6 = .ok (.getfield 48, 3) := by decide +kernel
theorem dX1_isTyped_9 : decode cX1_isTyped 9 = .ok (.arraylength, 1) := by decide +kernel
theorem dX1_isTyped_10 : decode cX1_isTyped 10 = .ok (.if_icmp .ge 16, 3) := by decide +kernel
theorem dX1_isTyped_13 : decode cX1_isTyped 13 = .ok (.aload_n 0, 1) := by decide +kernel
theorem dX1_isTyped_14 : decode cX1_isTyped 14 = .ok (.getfield 48, 3) := by decide +kernel
theorem dX1_isTyped_17 : decode cX1_isTyped 17 = .ok (.iload_n 1, 1) := by decide +kernel
theorem dX1_isTyped_18 : decode cX1_isTyped 18 = .ok (.baload, 1) := by decide +kernel
theorem dX1_isTyped_19 : decode cX1_isTyped 19 = .ok (.ifCond .eq 7, 3) := by decide +kernel
theorem dX1_isTyped_22 : decode cX1_isTyped 22 = .ok (.iconst 1, 1) := by decide +kernel
theorem dX1_isTyped_23 : decode cX1_isTyped 23 = .ok (.goto 4, 3) := by decide +kernel
theorem dX1_isTyped_27 : decode cX1_isTyped 27 = .ok (.ireturn, 1) := by decide +kernel
theorem dX1_ofNode_0 : decode cX1_ofNode 0 = .ok (.aload_n 0, 1) := by decide +kernel
theorem dX1_ofNode_1 : decode cX1_ofNode 1 = .ok (.getfield 12, 3) := by decide +kernel
theorem dX1_ofNode_4 : decode cX1_ofNode 4 = .ok (.getfield 194, 3) := by decide +kernel
theorem dX1_ofNode_7 : decode cX1_ofNode 7 = .ok (.iload_n 1, 1) := by decide +kernel
theorem dX1_ofNode_8 : decode cX1_ofNode 8 = .ok (.invokestatic 109, 3) := by decide +kernel
theorem dX1_ofNode_11 : decode cX1_ofNode 11 = .ok (.istore_n 3, 1) := by decide +kernel
theorem dX1_ofNode_12 : decode cX1_ofNode 12 = .ok (.iload_n 2, 1) := by decide +kernel
theorem dX1_ofNode_13 : decode cX1_ofNode 13 = .ok (.tableswitch 146 0 7 #[47, 59, 70, 82, 98, 114, 128, 134], 47) := by decide +kernel
theorem dX1_ofNode_60 : decode cX1_ofNode 60 = .ok (.aload_n 0, 1) := by decide +kernel
