theorem dX1_ofNode_61 : decode cX1_ofNode 61 = .ok (.getfield 12, 3) := by decide +kernel
theorem dX1_ofNode_64 : decode cX1_ofNode 64 = .ok (.getfield 146, 3) := by decide +kernel
theorem dX1_ofNode_67 : decode cX1_ofNode 67 = .ok (.iload_n 1, 1) := by decide +kernel
theorem dX1_ofNode_68 : decode cX1_ofNode 68 = .ok (.invokestatic 109, 3) := by decide +kernel
theorem dX1_ofNode_71 : decode cX1_ofNode 71 = .ok (.ireturn, 1) := by decide +kernel
theorem dX1_ofNode_72 : decode cX1_ofNode 72 = .ok (.iload_n 3, 1) := by decide +kernel
theorem dX1_ofNode_73 : decode cX1_ofNode 73 = .ok (.ifCond .ge 8, 3) := by decide +kernel
theorem dX1_ofNode_76 : decode cX1_ofNode 76 = .ok (.bipush (-2), 2) := by decide +kernel
theorem dX1_ofNode_78 : decode cX1_ofNode 78 = .ok (.goto 4, 3) := by decide +kernel
theorem dX1_ofNode_82 : decode cX1_ofNode 82 = .ok (.ireturn, 1) := by decide +kernel
theorem dX1_ofNode_83 : decode cX1_ofNode 83 = .ok (.aload_n 0, 1) := by decide +kernel
theorem dX1_ofNode_84 : decode cX1_ofNode 84 = .ok (.getfield 12, 3) := by decide +kernel
theorem dX1_ofNode_87 : decode cX1_ofNode 87 = .ok (.getfield 143, 3) := by decide +kernel
theorem dX1_ofNode_90 : decode cX1_ofNode 90 = .ok (.iload_n 1, 1) := by decide +kernel
theorem dX1_ofNode_91 : decode cX1_ofNode 91 = .ok (.invokestatic 109, 3) := by decide +kernel
theorem dX1_ofNode_94 : decode cX1_ofNode 94 = .ok (.ireturn, 1) := by decide +kernel
theorem dX1_ofNode_95 : decode cX1_ofNode 95 = .ok (.aload_n 0, 1) := by decide +kernel
theorem dX1_ofNode_96 : decode cX1_ofNode 96 = .ok (.getfield 21, 3) := by decide +kernel
theorem dX1_ofNode_99 : decode cX1_ofNode 99 = .ok (.aload_n 0, 1) := by decide +kernel
theorem dX1_ofNode_100 : decode cX1_ofNode 100 = .ok (.getfield 41, 3) := by decide +kernel
theorem dX1_ofNode_103 : decode cX1_ofNode 103 = .ok (.iload_n 1, 1) := by decide +kernel
theorem dX1_ofNode_104 : decode cX1_ofNode 104 = .ok (.invokestatic 109, 3) := by decide +kernel
theorem dX1_ofNode_107 : decode cX1_ofNode 107 = .ok (.invokevirtual 197, 3) := by decide +kernel
theorem dX1_ofNode_110 : decode cX1_ofNode 110 = .ok (.ireturn, 1) := by decide +kernel
theorem dX1_ofNode_111 : decode cX1_ofNode 111 = .ok (.aload_n 0, 1) := by decide +kernel
theorem dX1_ofNode_112 : decode cX1_ofNode 112 = .ok (.getfield 21, 3) := by decide +kernel
theorem dX1_ofNode_115 : decode cX1_ofNode 115 = .ok (.aload_n 0, 1) := by decide +kernel
theorem dX1_ofNode_116 : decode cX1_ofNode 116 = .ok (.getfield 41, 3) := by decide +kernel
theorem dX1_ofNode_119 : decode cX1_ofNode 119 = .ok (.iload_n 1, 1) := by decide +kernel
theorem dX1_ofNode_120 : decode cX1_ofNode 120 = .ok (.invokestatic 109, 3) := by decide +kernel
theorem dX1_ofNode_123 : decode cX1_ofNode 123 = .ok (.invokevirtual 198, 3) := by decide +kernel
theorem dX1_ofNode_126 : decode cX1_ofNode 126 = .ok (.ireturn, 1) := by decide +kernel
theorem dX1_ofNode_127 : decode cX1_ofNode 127 = .ok (.aload_n 0, 1) := by decide +kernel
theorem dX1_ofNode_128 : decode cX1_ofNode 128 = .ok (.iload_n 1, 1) := by decide +kernel
theorem dX1_ofNode_129 : decode cX1_ofNode 129 = .ok (.invokevirtual 137, 3) := by decide +kernel
theorem dX1_ofNode_132 : decode cX1_ofNode 132 = .ok (.ifCond .eq 7, 3) := by decide +kernel
theorem dX1_ofNode_135 : decode cX1_ofNode 135 = .ok (.iconst 1, 1) := by decide +kernel
theorem dX1_ofNode_136 : decode cX1_ofNode 136 = .ok (.goto 4, 3) := by decide +kernel
theorem dX1_ofNode_140 : decode cX1_ofNode 140 = .ok (.ireturn, 1) := by decide +kernel
theorem dX1_ofNode_141 : decode cX1_ofNode 141 = .ok (.aload_n 0, 1) := by decide +kernel
theorem dX1_ofNode_142 : decode cX1_ofNode 142 = .ok (.iload_n 1, 1) := by decide +kernel
theorem dX1_ofNode_143 : decode cX1_ofNode 143 = .ok (.invokevirtual 201, 3) := by decide +kernel
theorem dX1_ofNode_146 : decode cX1_ofNode 146 = .ok (.ireturn, 1) := by decide +kernel
theorem dX1_ofNode_147 : decode cX1_ofNode 147 = .ok (.aload_n 0, 1) := by decide +kernel
theorem dX1_ofNode_148 : decode cX1_ofNode 148 = .ok (.getfield 12, 3) := by decide +kernel
theorem dX1_ofNode_151 : decode cX1_ofNode 151 = .ok (.getfield 204, 3) := by decide +kernel
theorem dX1_ofNode_154 : decode cX1_ofNode 154 = .ok (.iload_n 1, 1) := by decide +kernel
theorem dX1_ofNode_155 : decode cX1_ofNode 155 = .ok (.invokestatic 109, 3) := by decide +kernel
theorem dX1_ofNode_158 : decode cX1_ofNode 158 = .ok (.ireturn, 1) := by decide +kernel
theorem dX1_ofNode_159 : decode cX1_ofNode 159 = .ok (.iconst (-1), 1) := by decide +kernel
theorem dX1_ofNode_160 : decode cX1_ofNode 160 = .ok (.ireturn, 1) := by decide +kernel
theorem dX1_setTyped_0 : decode cX1_setTyped 0 = .ok (.aload_n 0, 1) := by decide +kernel
theorem dX1_setTyped_1 : decode cX1_setTyped 1 = .ok (.getfield 21, 3) := by decide +kernel
theorem dX1_setTyped_4 : decode cX1_setTyped 4 = .ok (.iload_n 2, 1) := by decide +kernel
theorem dX1_setTyped_5 : decode cX1_setTyped 5 = .ok (.invokevirtual 129, 3) := by decide +kernel
theorem dX1_setTyped_8 : decode cX1_setTyped 8 = .ok (.ifCond .ne 7, 3) := by decide +kernel
theorem dX1_setTyped_11 : decode cX1_setTyped 11 = .ok (.iconst 1, 1) := by decide +kernel
theorem dX1_setTyped_12 : decode cX1_setTyped 12 = .ok (.goto 4, 3) := by decide +kernel
theorem dX1_setTyped_16 : decode cX1_setTyped 16 = .ok (.istore_n 3, 1) := by decide +kernel
theorem dX1_setTyped_17 : decode cX1_setTyped 17 = .ok (.iconst 0, 1) := by decide +kernel
theorem dX1_setTyped_18 : decode cX1_setTyped 18 = .ok (.istore 4, 2) := by decide +kernel
theorem dX1_setTyped_20 : decode cX1_setTyped 20 = .ok (.iload 4, 2) := by decide +kernel
theorem dX1_setTyped_22 : decode cX1_setTyped 22 = .ok (.iconst 3, 1) := by decide +kernel
theorem dX1_setTyped_23 : decode cX1_setTyped 23 = .ok (.if_icmp .ge 49, 3) := by decide +kernel
theorem dX1_setTyped_26 : decode cX1_setTyped 26 = .ok (.aload_n 0, 1) := by decide +kernel
theorem dX1_setTyped_27 : decode cX1_setTyped 27 = .ok (.getfield 12, 3) := by decide +kernel
theorem dX1_setTyped_30 : decode cX1_setTyped 30 = .ok (.iload_n 1, 1) := by decide +kernel
theorem dX1_setTyped_31 : decode cX1_setTyped 31 = .ok (.iload 4, 2) := by decide +kernel
theorem dX1_setTyped_33 : decode cX1_setTyped 33 = .ok (.invokevirtual 133, 3) := by decide +kernel
theorem dX1_setTyped_36 : decode cX1_setTyped 36 = .ok (.istore 5, 2) := by decide +kernel
theorem dX1_setTyped_38 : decode cX1_setTyped 38 = .ok (.iload 5, 2) := by decide +kernel
theorem dX1_setTyped_40 : decode cX1_setTyped 40 = .ok (.ifCond .lt 26, 3) := by decide +kernel
theorem dX1_setTyped_66 : decode cX1_setTyped 66 = .ok (.iinc 4 1, 3) := by decide +kernel
theorem dX1_setTyped_69 : decode cX1_setTyped 69 = .ok (.goto (-49), 3) := by decide +kernel
theorem dX1_setTyped_72 : decode cX1_setTyped 72 = .ok (.iload_n 1, 1) := by decide +kernel
theorem dX1_setTyped_73 : decode cX1_setTyped 73 = .ok (.ifCond .lt 19, 3) := by decide +kernel
theorem dX1_setTyped_76 : decode cX1_setTyped 76 = .ok (.iload_n 1, 1) := by decide +kernel
theorem dX1_setTyped_77 : decode cX1_setTyped 77 = .ok (.aload_n 0, 1) := by decide +kernel
theorem dX1_setTyped_78 : decode cX1_setTyped 78 = .ok (.getfield 48, 3) := by decide +kernel
theorem dX1_setTyped_81 : decode cX1_setTyped 81 = .ok (.arraylength, 1) := by decide +kernel
theorem dX1_setTyped_82 : decode cX1_setTyped 82 = .ok (.if_icmp .ge 10, 3) := by decide +kernel
theorem dX1_setTyped_85 : decode cX1_setTyped 85 = .ok (.aload_n 0, 1) := by decide +kernel
theorem dX1_setTyped_86 : decode cX1_setTyped 86 = .ok (.getfield 48, 3) := by decide +kernel
theorem dX1_setTyped_89 : decode cX1_setTyped 89 = .ok (.iload_n 1, 1) := by decide +kernel
theorem dX1_setTyped_90 : decode cX1_setTyped 90 = .ok (.iload_n 3, 1) := by decide +kernel
theorem dX1_setTyped_91 : decode cX1_setTyped 91 = .ok (.bastore, 1) := by decide +kernel
theorem dX1_setTyped_92 : decode cX1_setTyped 92 = .ok (.return_, 1) := by decide +kernel
theorem dX1_sizeOfCasts_0 : decode cX1_sizeOfCasts 0 = .ok (.iconst 0, 1) := by decide +kernel
theorem dX1_sizeOfCasts_1 : decode cX1_sizeOfCasts 1 = .ok (.istore_n 1, 1) := by decide +kernel
theorem dX1_sizeOfCasts_2 : decode cX1_sizeOfCasts 2 = .ok (.iconst 0, 1) := by decide +kernel
theorem dX1_sizeOfCasts_3 : decode cX1_sizeOfCasts 3 = .ok (.istore_n 2, 1) := by decide +kernel
theorem dX1_sizeOfCasts_4 : decode cX1_sizeOfCasts 4 = .ok (.iload_n 2, 1) := by decide +kernel
theorem dX1_sizeOfCasts_5 : decode cX1_sizeOfCasts 5 = .ok (.aload_n 0, 1) := by decide +kernel
theorem dX1_sizeOfCasts_6 : decode cX1_sizeOfCasts 6 = .ok (.getfield 37, 3) := by decide +kernel
theorem dX1_sizeOfCasts_9 : decode cX1_sizeOfCasts 9 = .ok (.getfield 68, 3) := by decide +kernel
theorem dX1_sizeOfCasts_12 : decode cX1_sizeOfCasts 12 = .ok (.if_icmp .ge 28, 3) := by decide +kernel
theorem dX1_sizeOfCasts_40 : decode cX1_sizeOfCasts 40 = .ok (.iload_n 1, 1) := by decide +kernel
theorem dX1_sizeOfCasts_41 : decode cX1_sizeOfCasts 41 = .ok (.ireturn, 1) := by decide +kernel
theorem dX1_typeOf_0 : decode cX1_typeOf 0 = .ok (.aload_n 0, 1) := by decide +kernel
theorem dX1_typeOf_1 : decode cX1_typeOf 1 = .ok (.getfield 12, 3) := by decide +kernel
theorem dX1_typeOf_4 : decode cX1_typeOf 4 = .ok (.getfield 143, 3) := by decide +kernel
theorem dX1_typeOf_7 : decode cX1_typeOf 7 = .ok (.iload_n 1, 1) := by decide +kernel
theorem dX1_typeOf_8 : decode cX1_typeOf 8 = .ok (.invokestatic 109, 3) := by decide +kernel
theorem dX1_typeOf_11 : decode cX1_typeOf 11 = .ok (.istore_n 2, 1) := by decide +kernel
theorem dX1_typeOf_12 : decode cX1_typeOf 12 = .ok (.aload_n 0, 1) := by decide +kernel
theorem dX1_typeOf_13 : decode cX1_typeOf 13 = .ok (.getfield 12, 3) := by decide +kernel
theorem dX1_typeOf_16 : decode cX1_typeOf 16 = .ok (.iload_n 1, 1) := by decide +kernel
theorem dX1_typeOf_17 : decode cX1_typeOf 17 = .ok (.iconst 0, 1) := by decide +kernel
theorem dX1_typeOf_18 : decode cX1_typeOf 18 = .ok (.invokevirtual 133, 3) := by decide +kernel
theorem dX1_typeOf_21 : decode cX1_typeOf 21 = .ok (.istore_n 3, 1) := by decide +kernel
theorem dX1_typeOf_22 : decode cX1_typeOf 22 = .ok (.aload_n 0, 1) := by decide +kernel
theorem dX1_typeOf_23 : decode cX1_typeOf 23 = .ok (.getfield 12, 3) := by decide +kernel
theorem dX1_typeOf_26 : decode cX1_typeOf 26 = .ok (.iload_n 1, 1) := by decide +kernel
theorem dX1_typeOf_27 : decode cX1_typeOf 27 = .ok (.iconst 1, 1) := by decide +kernel
theorem dX1_typeOf_28 : decode cX1_typeOf 28 = .ok (.invokevirtual 133, 3) := by decide +kernel
theorem dX1_typeOf_31 : decode cX1_typeOf 31 = .ok (.istore 4, 2) := by decide +kernel
theorem dX1_typeOf_33 : decode cX1_typeOf 33 = .ok (.aload_n 0, 1) := by decide +kernel
theorem dX1_typeOf_34 : decode cX1_typeOf 34 = .ok (.getfield 12, 3) := by decide +kernel
theorem dX1_typeOf_37 : decode cX1_typeOf 37 = .ok (.getfield 146, 3) := by decide +kernel
theorem dX1_typeOf_40 : decode cX1_typeOf 40 = .ok (.iload_n 1, 1) := by decide +kernel
theorem dX1_typeOf_41 : decode cX1_typeOf 41 = .ok (.invokestatic 109, 3) := by decide +kernel
theorem dX1_typeOf_44 : decode cX1_typeOf 44 = .ok (.tableswitch 306 0 11 #[64, 66, 68, 84, 105, 133, 181, 157, 198, 225, 252, 279], 64) := by decide +kernel
theorem dX1_typeOf_108 : decode cX1_typeOf 108 = .ok (.iconst 1, 1) := by decide +kernel
theorem dX1_typeOf_109 : decode cX1_typeOf 109 = .ok (.ireturn, 1) := by decide +kernel
theorem dX1_typedNodes_0 : decode cX1_typedNodes 0 = .ok (.iconst 0, 1) := by decide +kernel
theorem dX1_typedNodes_1 : decode cX1_typedNodes 1 = .ok (.istore_n 1, 1) := by decide +kernel
theorem dX1_typedNodes_2 : decode cX1_typedNodes 2 = .ok (.iconst 0, 1) := by decide +kernel
theorem dX1_typedNodes_3 : decode cX1_typedNodes 3 = .ok (.istore_n 2, 1) := by decide +kernel
theorem dX1_typedNodes_4 : decode cX1_typedNodes 4 = .ok (.iload_n 2, 1) := by decide +kernel
theorem dX1_typedNodes_5 : decode cX1_typedNodes 5 = .ok (.aload_n 0, 1) := by decide +kernel
theorem dX1_typedNodes_6 : decode cX1_typedNodes 6 = .ok (.getfield 12, 3) := by decide +kernel
theorem dX1_typedNodes_9 : decode cX1_typedNodes 9 = .ok (.getfield 103, 3) := by decide +kernel
theorem dX1_typedNodes_12 : decode cX1_typedNodes 12 = .ok (.if_icmp .ge 20, 3) := by decide +kernel
theorem dX1_typedNodes_15 : decode cX1_typedNodes 15 = .ok (.aload_n 0, 1) := by decide +kernel
theorem dX1_typedNodes_16 : decode cX1_typedNodes 16 = .ok (.iload_n 2, 1) := by decide +kernel
theorem dX1_typedNodes_17 : decode cX1_typedNodes 17 = .ok (.invokevirtual 137, 3) := by decide +kernel
theorem dX1_typedNodes_20 : decode cX1_typedNodes 20 = .ok (.ifCond .eq 6, 3) := by decide +kernel
theorem dX1_typedNodes_23 : decode cX1_typedNodes 23 = .ok (.iinc 1 1, 3) := by decide +kernel
theorem dX1_typedNodes_26 : decode cX1_typedNodes 26 = .ok (.iinc 2 1, 3) := by decide +kernel
theorem dX1_typedNodes_29 : decode cX1_typedNodes 29 = .ok (.goto (-25), 3) := by decide +kernel
theorem dX1_typedNodes_32 : decode cX1_typedNodes 32 = .ok (.iload_n 1, 1) := by decide +kernel
theorem dX1_typedNodes_33 : decode cX1_typedNodes 33 = .ok (.ireturn, 1) := by decide +kernel
theorem dX2_init_0 : decode cX2_init 0 = .ok (.aload_n 0, 1) := by decide +kernel
theorem dX2_init_1 : decode cX2_init 1 = .ok (.invokespecial 3, 3) := by decide +kernel
theorem dX2_init_4 : decode cX2_init 4 = .ok (.aload_n 0, 1) := by decide +kernel
theorem dX2_init_5 : decode cX2_init 5 = .ok (.new 9, 3) := by decide +kernel
theorem dX2_init_8 : decode cX2_init 8 = .ok (.dup, 1) := by decide +kernel
theorem dX2_init_9 : decode cX2_init 9 = .ok (.invokespecial 11, 3) := by decide +kernel
theorem dX2_init_12 : decode cX2_init 12 = .ok (.putfield 12, 3) := by decide +kernel
theorem dX2_init_15 : decode cX2_init 15 = .ok (.aload_n 0, 1) := by decide +kernel
theorem dX2_init_16 : decode cX2_init 16 = .ok (.aload_n 0, 1) := by decide +kernel
theorem dX2_init_17 : decode cX2_init 17 = .ok (.getfield 12, 3) := by decide +kernel
theorem dX2_init_20 : decode cX2_init 20 = .ok (.getfield 18, 3) := by decide +kernel
theorem dX2_init_23 : decode cX2_init 23 = .ok (.putfield 22, 3) := by decide +kernel
theorem dX2_init_26 : decode cX2_init 26 = .ok (.aload_n 0, 1) := by decide +kernel
theorem dX2_init_27 : decode cX2_init 27 = .ok (.getfield 12, 3) := by decide +kernel
theorem dX2_init_30 : decode cX2_init 30 = .ok (.iconst 0, 1) := by decide +kernel
theorem dX2_init_31 : decode cX2_init 31 = .ok (.iconst (-1), 1) := by decide +kernel
theorem dX2_init_32 : decode cX2_init 32 = .ok (.iconst (-1), 1) := by decide +kernel
theorem dX2_init_33 : decode cX2_init 33 = .ok (.invokevirtual 23, 3) := by decide +kernel
theorem dX2_init_36 : decode cX2_init 36 = .ok (.pop, 1) := by decide +kernel
theorem dX2_init_37 : decode cX2_init 37 = .ok (.aload_n 0, 1) := by decide +kernel
theorem dX2_init_38 : decode cX2_init 38 = .ok (.getfield 12, 3) := by decide +kernel
theorem dX2_init_41 : decode cX2_init 41 = .ok (.iconst 1, 1) := by decide +kernel
theorem dX2_init_42 : decode cX2_init 42 = .ok (.iconst (-1), 1) := by decide +kernel
theorem dX2_init_43 : decode cX2_init 43 = .ok (.iconst (-1), 1) := by decide +kernel
theorem dX2_init_44 : decode cX2_init 44 = .ok (.invokevirtual 23, 3) := by decide +kernel
theorem dX2_init_47 : decode cX2_init 47 = .ok (.pop, 1) := by decide +kernel
theorem dX2_init_48 : decode cX2_init 48 = .ok (.aload_n 0, 1) := by decide +kernel
theorem dX2_init_49 : decode cX2_init 49 = .ok (.getfield 12, 3) := by decide +kernel
theorem dX2_init_52 : decode cX2_init 52 = .ok (.iconst 2, 1) := by decide +kernel
theorem dX2_init_53 : decode cX2_init 53 = .ok (.iconst (-1), 1) := by decide +kernel
theorem dX2_init_54 : decode cX2_init 54 = .ok (.iconst (-1), 1) := by decide +kernel
theorem dX2_init_55 : decode cX2_init 55 = .ok (.invokevirtual 23, 3) := by decide +kernel
theorem dX2_init_58 : decode cX2_init 58 = .ok (.pop, 1) := by decide +kernel
theorem dX2_init_59 : decode cX2_init 59 = .ok (.return_, 1) := by decide +kernel
theorem dX3_begin_0 : decode cX3_begin 0 = .ok (.aload_n 0, 1) := by decide +kernel
theorem dX3_begin_1 : decode cX3_begin 1 = .ok (.getfield 23, 3) := by decide +kernel
theorem dX3_begin_4 : decode cX3_begin 4 = .ok (.getfield 124, 3) := by decide +kernel
theorem dX3_begin_7 : decode cX3_begin 7 = .ok (.getfield 128, 3) := by decide +kernel
theorem dX3_begin_10 : decode cX3_begin 10 = .ok (.aload_n 0, 1) := by decide +kernel
theorem dX3_begin_11 : decode cX3_begin 11 = .ok (.getfield 100, 3) := by decide +kernel
theorem dX3_begin_14 : decode cX3_begin 14 = .ok (.invokestatic 134, 3) := by decide +kernel
theorem dX3_begin_17 : decode cX3_begin 17 = .ok (.istore_n 1, 1) := by decide +kernel
theorem dX3_begin_18 : decode cX3_begin 18 = .ok (.aload_n 0, 1) := by decide +kernel
theorem dX3_begin_19 : decode cX3_begin 19 = .ok (.getfield 100, 3) := by decide +kernel
theorem dX3_begin_22 : decode cX3_begin 22 = .ok (.istore_n 2, 1) := by decide +kernel
theorem dX3_begin_23 : decode cX3_begin 23 = .ok (.aload_n 0, 1) := by decide +kernel
theorem dX3_begin_24 : decode cX3_begin 24 = .ok (.getfield 23, 3) := by decide +kernel
theorem dX3_begin_27 : decode cX3_begin 27 = .ok (.getfield 124, 3) := by decide +kernel
theorem dX3_begin_30 : decode cX3_begin 30 = .ok (.getfield 138, 3) := by decide +kernel
theorem dX3_begin_33 : decode cX3_begin 33 = .ok (.aload_n 0, 1) := by decide +kernel
theorem dX3_begin_34 : decode cX3_begin 34 = .ok (.getfield 100, 3) := by decide +kernel
theorem dX3_begin_37 : decode cX3_begin 37 = .ok (.invokestatic 134, 3) := by decide +kernel
theorem dX3_begin_40 : decode cX3_begin 40 = .ok (.tableswitch 147 0 7 #[48, 58, 68, 76, 147, 101, 147, 92], 48) := by decide +kernel
theorem dX3_begin_88 : decode cX3_begin 88 = .ok (.aload_n 0, 1) := by decide +kernel
theorem dX3_begin_89 : decode cX3_begin 89 = .ok (.iconst 1, 1) := by decide +kernel
theorem dX3_begin_90 : decode cX3_begin 90 = .ok (.iload_n 1, 1) := by decide +kernel
theorem dX3_begin_91 : decode cX3_begin 91 = .ok (.iconst (-1), 1) := by decide +kernel
theorem dX3_begin_92 : decode cX3_begin 92 = .ok (.invokevirtual 140, 3) := by decide +kernel
theorem dX3_begin_95 : decode cX3_begin 95 = .ok (.goto 115, 3) := by decide +kernel
theorem dX3_begin_210 : decode cX3_begin 210 = .ok (.return_, 1) := by decide +kernel
theorem dX3_give_0 : decode cX3_give 0 = .ok (.aload_n 0, 1) := by decide +kernel
theorem dX3_give_1 : decode cX3_give 1 = .ok (.iload_n 1, 1) := by decide +kernel
theorem dX3_give_2 : decode cX3_give 2 = .ok (.putfield 106, 3) := by decide +kernel
theorem dX3_give_5 : decode cX3_give 5 = .ok (.aload_n 0, 1) := by decide +kernel
theorem dX3_give_6 : decode cX3_give 6 = .ok (.iload_n 2, 1) := by decide +kernel
theorem dX3_give_7 : decode cX3_give 7 = .ok (.putfield 155, 3) := by decide +kernel
theorem dX3_give_10 : decode cX3_give 10 = .ok (.aload_n 0, 1) := by decide +kernel
theorem dX3_give_11 : decode cX3_give 11 = .ok (.iload_n 3, 1) := by decide +kernel
theorem dX3_give_12 : decode cX3_give 12 = .ok (.putfield 157, 3) := by decide +kernel
theorem dX3_give_15 : decode cX3_give 15 = .ok (.aload_n 0, 1) := by decide +kernel
theorem dX3_give_16 : decode cX3_give 16 = .ok (.iconst (-1), 1) := by decide +kernel
theorem dX3_give_17 : decode cX3_give 17 = .ok (.putfield 109, 3) := by decide +kernel
theorem dX3_give_20 : decode cX3_give 20 = .ok (.aload_n 0, 1) := by decide +kernel
theorem dX3_give_21 : decode cX3_give 21 = .ok (.iconst 1, 1) := by decide +kernel
theorem dX3_give_22 : decode cX3_give 22 = .ok (.putfield 44, 3) := by decide +kernel
theorem dX3_give_25 : decode cX3_give 25 = .ok (.return_, 1) := by decide +kernel
theorem dX3_go_0 : decode cX3_go 0 = .ok (.iload_n 1, 1) := by decide +kernel
theorem dX3_go_1 : decode cX3_go 1 = .ok (.aload_n 0, 1) := by decide +kernel
theorem dX3_go_2 : decode cX3_go 2 = .ok (.getfield 27, 3) := by decide +kernel
theorem dX3_go_5 : decode cX3_go 5 = .ok (.if_icmp .ne 11, 3) := by decide +kernel
theorem dX3_go_16 : decode cX3_go 16 = .ok (.aload_n 0, 1) := by decide +kernel
theorem dX3_go_17 : decode cX3_go 17 = .ok (.iload_n 1, 1) := by decide +kernel
theorem dX3_go_18 : decode cX3_go 18 = .ok (.invokevirtual 34, 3) := by decide +kernel
theorem dX3_go_21 : decode cX3_go 21 = .ok (.aload_n 0, 1) := by decide +kernel
theorem dX3_go_22 : decode cX3_go 22 = .ok (.getfield 31, 3) := by decide +kernel
theorem dX3_go_25 : decode cX3_go 25 = .ok (.iload_n 2, 1) := by decide +kernel
theorem dX3_go_26 : decode cX3_go 26 = .ok (.if_icmp .ge 126, 3) := by decide +kernel
theorem dX3_go_29 : decode cX3_go 29 = .ok (.aload_n 0, 1) := by decide +kernel
theorem dX3_go_30 : decode cX3_go 30 = .ok (.invokevirtual 37, 3) := by decide +kernel
theorem dX3_go_33 : decode cX3_go 33 = .ok (.ifCond .ne 119, 3) := by decide +kernel
theorem dX3_go_36 : decode cX3_go 36 = .ok (.aload_n 0, 1) := by decide +kernel
theorem dX3_go_37 : decode cX3_go 37 = .ok (.dup, 1) := by decide +kernel
theorem dX3_go_38 : decode cX3_go 38 = .ok (.getfield 31, 3) := by decide +kernel
theorem dX3_go_41 : decode cX3_go 41 = .ok (.iconst 1, 1) := by decide +kernel
theorem dX3_go_42 : decode cX3_go 42 = .ok (.iadd, 1) := by decide +kernel
theorem dX3_go_43 : decode cX3_go 43 = .ok (.putfield 31, 3) := by decide +kernel
theorem dX3_go_46 : decode cX3_go 46 = .ok (.aload_n 0, 1) := by decide +kernel
theorem dX3_go_47 : decode cX3_go 47 = .ok (.getfield 14, 3) := by decide +kernel
theorem dX3_go_50 : decode cX3_go 50 = .ok (.getfield 41, 3) := by decide +kernel
theorem dX3_go_53 : decode cX3_go 53 = .ok (.iconst 1, 1) := by decide +kernel
theorem dX3_go_54 : decode cX3_go 54 = .ok (.isub, 1) := by decide +kernel
theorem dX3_go_55 : decode cX3_go 55 = .ok (.istore_n 3, 1) := by decide +kernel
theorem dX3_go_56 : decode cX3_go 56 = .ok (.aload_n 0, 1) := by decide +kernel
theorem dX3_go_57 : decode cX3_go 57 = .ok (.getfield 44, 3) := by decide +kernel
theorem dX3_go_60 : decode cX3_go 60 = .ok (.ifCond .ne 10, 3) := by decide +kernel
theorem dX3_go_63 : decode cX3_go 63 = .ok (.aload_n 0, 1) := by decide +kernel
theorem dX3_go_64 : decode cX3_go 64 = .ok (.invokevirtual 47, 3) := by decide +kernel
theorem dX3_go_67 : decode cX3_go 67 = .ok (.goto 49, 3) := by decide +kernel
theorem dX3_go_116 : decode cX3_go 116 = .ok (.aload_n 0, 1) := by decide +kernel
theorem dX3_go_117 : decode cX3_go 117 = .ok (.aload_n 0, 1) := by decide +kernel
theorem dX3_go_118 : decode cX3_go 118 = .ok (.getfield 63, 3) := by decide +kernel
theorem dX3_go_121 : decode cX3_go 121 = .ok (.aload_n 0, 1) := by decide +kernel
theorem dX3_go_122 : decode cX3_go 122 = .ok (.getfield 14, 3) := by decide +kernel
theorem dX3_go_125 : decode cX3_go 125 = .ok (.getfield 41, 3) := by decide +kernel
theorem dX3_go_128 : decode cX3_go 128 = .ok (.invokestatic 66, 3) := by decide +kernel
theorem dX3_go_131 : decode cX3_go 131 = .ok (.putfield 63, 3) := by decide +kernel
theorem dX3_go_134 : decode cX3_go 134 = .ok (.aload_n 0, 1) := by decide +kernel
theorem dX3_go_135 : decode cX3_go 135 = .ok (.aload_n 0, 1) := by decide +kernel
theorem dX3_go_136 : decode cX3_go 136 = .ok (.getfield 71, 3) := by decide +kernel
theorem dX3_go_139 : decode cX3_go 139 = .ok (.aload_n 0, 1) := by decide +kernel
theorem dX3_go_140 : decode cX3_go 140 = .ok (.getfield 74, 3) := by decide +kernel
theorem dX3_go_143 : decode cX3_go 143 = .ok (.invokestatic 66, 3) := by decide +kernel
theorem dX3_go_146 : decode cX3_go 146 = .ok (.putfield 71, 3) := by decide +kernel
theorem dX3_go_149 : decode cX3_go 149 = .ok (.goto (-128), 3) := by decide +kernel
theorem dX3_go_152 : decode cX3_go 152 = .ok (.return_, 1) := by decide +kernel
theorem dX3_init_0 : decode cX3_init 0 = .ok (.aload_n 0, 1) := by decide +kernel
theorem dX3_init_1 : decode cX3_init 1 = .ok (.invokespecial 3, 3) := by decide +kernel
theorem dX3_init_4 : decode cX3_init 4 = .ok (.aload_n 0, 1) := by decide +kernel
theorem dX3_init_5 : decode cX3_init 5 = .ok (.new 9, 3) := by decide +kernel
theorem dX3_init_8 : decode cX3_init 8 = .ok (.dup, 1) := by decide +kernel
theorem dX3_init_9 : decode cX3_init 9 = .ok (.bipush 16, 2) := by decide +kernel
theorem dX3_init_11 : decode cX3_init 11 = .ok (.invokespecial 11, 3) := by decide +kernel
theorem dX3_init_14 : decode cX3_init 14 = .ok (.putfield 14, 3) := by decide +kernel
theorem dX3_init_17 : decode cX3_init 17 = .ok (.aload_n 0, 1) := by decide +kernel
theorem dX3_init_18 : decode cX3_init 18 = .ok (.new 9, 3) := by decide +kernel
theorem dX3_init_21 : decode cX3_init 21 = .ok (.dup, 1) := by decide +kernel
theorem dX3_init_22 : decode cX3_init 22 = .ok (.bipush 16, 2) := by decide +kernel
theorem dX3_init_24 : decode cX3_init 24 = .ok (.invokespecial 11, 3) := by decide +kernel
theorem dX3_init_27 : decode cX3_init 27 = .ok (.putfield 20, 3) := by decide +kernel
theorem dX3_init_30 : decode cX3_init 30 = .ok (.aload_n 0, 1) := by decide +kernel
theorem dX3_init_31 : decode cX3_init 31 = .ok (.aload_n 1, 1) := by decide +kernel
theorem dX3_init_32 : decode cX3_init 32 = .ok (.putfield 23, 3) := by decide +kernel
theorem dX3_init_35 : decode cX3_init 35 = .ok (.aload_n 0, 1) := by decide +kernel
theorem dX3_init_36 : decode cX3_init 36 = .ok (.iconst (-1), 1) := by decide +kernel
theorem dX3_init_37 : decode cX3_init 37 = .ok (.putfield 27, 3) := by decide +kernel
theorem dX3_init_40 : decode cX3_init 40 = .ok (.return_, 1) := by decide +kernel
theorem dX3_ofMoment_0 : decode cX3_ofMoment 0 = .ok (.iload_n 1, 1) := by decide +kernel
theorem dX3_ofMoment_1 : decode cX3_ofMoment 1 = .ok (.tableswitch 57 0 2 #[27, 35, 40], 27) := by decide +kernel
theorem dX3_ofMoment_28 : decode cX3_ofMoment 28 = .ok (.aload_n 0, 1) := by decide +kernel
theorem dX3_ofMoment_29 : decode cX3_ofMoment 29 = .ok (.getfield 14, 3) := by decide +kernel
theorem dX3_ofMoment_32 : decode cX3_ofMoment 32 = .ok (.getfield 41, 3) := by decide +kernel
theorem dX3_ofMoment_35 : decode cX3_ofMoment 35 = .ok (.ireturn, 1) := by decide +kernel
theorem dX3_ofMoment_36 : decode cX3_ofMoment 36 = .ok (.aload_n 0, 1) := by decide +kernel
theorem dX3_ofMoment_37 : decode cX3_ofMoment 37 = .ok (.getfield 74, 3) := by decide +kernel
theorem dX3_ofMoment_40 : decode cX3_ofMoment 40 = .ok (.ireturn, 1) := by decide +kernel
theorem dX3_ofMoment_41 : decode cX3_ofMoment 41 = .ok (.aload_n 0, 1) := by decide +kernel
theorem dX3_ofMoment_42 : decode cX3_ofMoment 42 = .ok (.getfield 44, 3) := by decide +kernel
theorem dX3_ofMoment_45 : decode cX3_ofMoment 45 = .ok (.ifCond .ne 10, 3) := by decide +kernel
theorem dX3_ofMoment_48 : decode cX3_ofMoment 48 = .ok (.aload_n 0, 1) := by decide +kernel
theorem dX3_ofMoment_49 : decode cX3_ofMoment 49 = .ok (.getfield 100, 3) := by decide +kernel
theorem dX3_ofMoment_52 : decode cX3_ofMoment 52 = .ok (.goto 5, 3) := by decide +kernel
theorem dX3_ofMoment_55 : decode cX3_ofMoment 55 = .ok (.bipush (-2), 2) := by decide +kernel
theorem dX3_ofMoment_57 : decode cX3_ofMoment 57 = .ok (.ireturn, 1) := by decide +kernel
theorem dX3_ofMoment_58 : decode cX3_ofMoment 58 = .ok (.aload_n 0, 1) := by decide +kernel
theorem dX3_ofMoment_59 : decode cX3_ofMoment 59 = .ok (.getfield 44, 3) := by decide +kernel
theorem dX3_ofMoment_62 : decode cX3_ofMoment 62 = .ok (.ifCond .ne 8, 3) := by decide +kernel
theorem dX3_ofMoment_65 : decode cX3_ofMoment 65 = .ok (.bipush (-2), 2) := by decide +kernel
theorem dX3_ofMoment_67 : decode cX3_ofMoment 67 = .ok (.goto 7, 3) := by decide +kernel
theorem dX3_ofMoment_70 : decode cX3_ofMoment 70 = .ok (.aload_n 0, 1) := by decide +kernel
theorem dX3_ofMoment_71 : decode cX3_ofMoment 71 = .ok (.getfield 106, 3) := by decide +kernel
theorem dX3_ofMoment_74 : decode cX3_ofMoment 74 = .ok (.ireturn, 1) := by decide +kernel
theorem dX3_ofRun_0 : decode cX3_ofRun 0 = .ok (.iload_n 1, 1) := by decide +kernel
theorem dX3_ofRun_1 : decode cX3_ofRun 1 = .ok (.tableswitch 87 0 7 #[47, 52, 57, 62, 67, 72, 77, 82], 47) := by decide +kernel
theorem dX3_ofRun_48 : decode cX3_ofRun 48 = .ok (.aload_n 0, 1) := by decide +kernel
theorem dX3_ofRun_49 : decode cX3_ofRun 49 = .ok (.invokevirtual 216, 3) := by decide +kernel
theorem dX3_ofRun_52 : decode cX3_ofRun 52 = .ok (.ireturn, 1) := by decide +kernel
theorem dX3_ofRun_53 : decode cX3_ofRun 53 = .ok (.aload_n 0, 1) := by decide +kernel
theorem dX3_ofRun_54 : decode cX3_ofRun 54 = .ok (.invokevirtual 220, 3) := by decide +kernel
theorem dX3_ofRun_57 : decode cX3_ofRun 57 = .ok (.ireturn, 1) := by decide +kernel
theorem dX3_ofRun_58 : decode cX3_ofRun 58 = .ok (.aload_n 0, 1) := by decide +kernel
theorem dX3_ofRun_59 : decode cX3_ofRun 59 = .ok (.invokevirtual 223, 3) := by decide +kernel
theorem dX3_ofRun_62 : decode cX3_ofRun 62 = .ok (.ireturn, 1) := by decide +kernel
theorem dX3_ofRun_63 : decode cX3_ofRun 63 = .ok (.aload_n 0, 1) := by decide +kernel
theorem dX3_ofRun_64 : decode cX3_ofRun 64 = .ok (.getfield 31, 3) := by decide +kernel
theorem dX3_ofRun_67 : decode cX3_ofRun 67 = .ok (.ireturn, 1) := by decide +kernel
theorem dX3_ofRun_68 : decode cX3_ofRun 68 = .ok (.aload_n 0, 1) := by decide +kernel
theorem dX3_ofRun_69 : decode cX3_ofRun 69 = .ok (.getfield 63, 3) := by decide +kernel
theorem dX3_ofRun_72 : decode cX3_ofRun 72 = .ok (.ireturn, 1) := by decide +kernel
theorem dX3_ofRun_73 : decode cX3_ofRun 73 = .ok (.aload_n 0, 1) := by decide +kernel
theorem dX3_ofRun_74 : decode cX3_ofRun 74 = .ok (.getfield 71, 3) := by decide +kernel
theorem dX3_ofRun_77 : decode cX3_ofRun 77 = .ok (.ireturn, 1) := by decide +kernel
theorem dX3_ofRun_78 : decode cX3_ofRun 78 = .ok (.aload_n 0, 1) := by decide +kernel
theorem dX3_ofRun_79 : decode cX3_ofRun 79 = .ok (.getfield 115, 3) := by decide +kernel
theorem dX3_ofRun_82 : decode cX3_ofRun 82 = .ok (.ireturn, 1) := by decide +kernel
theorem dX3_ofRun_83 : decode cX3_ofRun 83 = .ok (.aload_n 0, 1) := by decide +kernel
theorem dX3_ofRun_84 : decode cX3_ofRun 84 = .ok (.getfield 118, 3) := by decide +kernel
theorem dX3_ofRun_87 : decode cX3_ofRun 87 = .ok (.ireturn, 1) := by decide +kernel
theorem dX3_ofRun_88 : decode cX3_ofRun 88 = .ok (.aload_n 0, 1) := by decide +kernel
theorem dX3_ofRun_89 : decode cX3_ofRun 89 = .ok (.getfield 121, 3) := by decide +kernel
theorem dX3_ofRun_92 : decode cX3_ofRun 92 = .ok (.ireturn, 1) := by decide +kernel
theorem dX3_outcome_0 : decode cX3_outcome 0 = .ok (.aload_n 0, 1) := by decide +kernel
theorem dX3_outcome_1 : decode cX3_outcome 1 = .ok (.getfield 44, 3) := by decide +kernel
theorem dX3_outcome_4 : decode cX3_outcome 4 = .ok (.iconst 2, 1) := by decide +kernel
theorem dX3_outcome_5 : decode cX3_outcome 5 = .ok (.if_icmp .ne 5, 3) := by decide +kernel
theorem dX3_outcome_10 : decode cX3_outcome 10 = .ok (.aload_n 0, 1) := by decide +kernel
theorem dX3_outcome_11 : decode cX3_outcome 11 = .ok (.getfield 44, 3) := by decide +kernel
theorem dX3_outcome_14 : decode cX3_outcome 14 = .ok (.iconst 3, 1) := by decide +kernel
theorem dX3_outcome_15 : decode cX3_outcome 15 = .ok (.if_icmp .ne 5, 3) := by decide +kernel
theorem dX3_outcome_20 : decode cX3_outcome 20 = .ok (.aload_n 0, 1) := by decide +kernel
theorem dX3_outcome_21 : decode cX3_outcome 21 = .ok (.getfield 44, 3) := by decide +kernel
theorem dX3_outcome_24 : decode cX3_outcome 24 = .ok (.iconst 1, 1) := by decide +kernel
theorem dX3_outcome_25 : decode cX3_outcome 25 = .ok (.if_icmp .ne 20, 3) := by decide +kernel
theorem dX3_outcome_28 : decode cX3_outcome 28 = .ok (.aload_n 0, 1) := by decide +kernel
theorem dX3_outcome_29 : decode cX3_outcome 29 = .ok (.getfield 14, 3) := by decide +kernel
theorem dX3_outcome_32 : decode cX3_outcome 32 = .ok (.getfield 41, 3) := by decide +kernel
theorem dX3_outcome_35 : decode cX3_outcome 35 = .ok (.ifCond .ne 10, 3) := by decide +kernel
theorem dX3_outcome_38 : decode cX3_outcome 38 = .ok (.aload_n 0, 1) := by decide +kernel
theorem dX3_outcome_39 : decode cX3_outcome 39 = .ok (.getfield 106, 3) := by decide +kernel
theorem dX3_outcome_42 : decode cX3_outcome 42 = .ok (.goto 4, 3) := by decide +kernel
theorem dX3_outcome_46 : decode cX3_outcome 46 = .ok (.ireturn, 1) := by decide +kernel
theorem dX3_outcomeNumber_0 : decode cX3_outcomeNumber 0 = .ok (.aload_n 0, 1) := by decide +kernel
theorem dX3_outcomeNumber_1 : decode cX3_outcomeNumber 1 = .ok (.invokevirtual 216, 3) := by decide +kernel
theorem dX3_outcomeNumber_4 : decode cX3_outcomeNumber 4 = .ok (.lookupswitch 50 #[(0, 36), (4, 38), (5, 45)], 36) := by decide +kernel
theorem dX3_outcomeNumber_54 : decode cX3_outcomeNumber 54 = .ok (.aload_n 0, 1) := by decide +kernel
theorem dX3_outcomeNumber_55 : decode cX3_outcomeNumber 55 = .ok (.getfield 155, 3) := by decide +kernel
theorem dX3_outcomeNumber_58 : decode cX3_outcomeNumber 58 = .ok (.ireturn, 1) := by decide +kernel
theorem dX3_restart_0 : decode cX3_restart 0 = .ok (.aload_n 0, 1) := by decide +kernel
theorem dX3_restart_1 : decode cX3_restart 1 = .ok (.iload_n 1, 1) := by decide +kernel
theorem dX3_restart_2 : decode cX3_restart 2 = .ok (.putfield 27, 3) := by decide +kernel
theorem dX3_restart_5 : decode cX3_restart 5 = .ok (.aload_n 0, 1) := by decide +kernel
theorem dX3_restart_6 : decode cX3_restart 6 = .ok (.getfield 23, 3) := by decide +kernel
theorem dX3_restart_9 : decode cX3_restart 9 = .ok (.getfield 77, 3) := by decide +kernel
theorem dX3_restart_12 : decode cX3_restart 12 = .ok (.getfield 83, 3) := by decide +kernel
theorem dX3_restart_15 : decode cX3_restart 15 = .ok (.aload_n 0, 1) := by decide +kernel
theorem dX3_restart_16 : decode cX3_restart 16 = .ok (.getfield 23, 3) := by decide +kernel
theorem dX3_restart_19 : decode cX3_restart 19 = .ok (.getfield 89, 3) := by decide +kernel
theorem dX3_restart_22 : decode cX3_restart 22 = .ok (.invokevirtual 92, 3) := by decide +kernel
theorem dX3_restart_25 : decode cX3_restart 25 = .ok (.aload_n 0, 1) := by decide +kernel
theorem dX3_restart_26 : decode cX3_restart 26 = .ok (.getfield 14, 3) := by decide +kernel
theorem dX3_restart_29 : decode cX3_restart 29 = .ok (.iconst 0, 1) := by decide +kernel
theorem dX3_restart_30 : decode cX3_restart 30 = .ok (.invokevirtual 97, 3) := by decide +kernel
theorem dX3_restart_33 : decode cX3_restart 33 = .ok (.aload_n 0, 1) := by decide +kernel
theorem dX3_restart_34 : decode cX3_restart 34 = .ok (.getfield 20, 3) := by decide +kernel
theorem dX3_restart_37 : decode cX3_restart 37 = .ok (.iconst 0, 1) := by decide +kernel
theorem dX3_restart_38 : decode cX3_restart 38 = .ok (.invokevirtual 97, 3) := by decide +kernel
theorem dX3_restart_41 : decode cX3_restart 41 = .ok (.aload_n 0, 1) := by decide +kernel
theorem dX3_restart_42 : decode cX3_restart 42 = .ok (.iconst 0, 1) := by decide +kernel
theorem dX3_restart_43 : decode cX3_restart 43 = .ok (.putfield 44, 3) := by decide +kernel
theorem dX3_restart_46 : decode cX3_restart 46 = .ok (.aload_n 0, 1) := by decide +kernel
theorem dX3_restart_47 : decode cX3_restart 47 = .ok (.iconst 0, 1) := by decide +kernel
theorem dX3_restart_48 : decode cX3_restart 48 = .ok (.putfield 100, 3) := by decide +kernel
theorem dX3_restart_51 : decode cX3_restart 51 = .ok (.aload_n 0, 1) := by decide +kernel
theorem dX3_restart_52 : decode cX3_restart 52 = .ok (.iconst (-1), 1) := by decide +kernel
theorem dX3_restart_53 : decode cX3_restart 53 = .ok (.putfield 103, 3) := by decide +kernel
theorem dX3_restart_56 : decode cX3_restart 56 = .ok (.aload_n 0, 1) := by decide +kernel
theorem dX3_restart_57 : decode cX3_restart 57 = .ok (.iconst (-1), 1) := by decide +kernel
theorem dX3_restart_58 : decode cX3_restart 58 = .ok (.putfield 106, 3) := by decide +kernel
theorem dX3_restart_61 : decode cX3_restart 61 = .ok (.aload_n 0, 1) := by decide +kernel
theorem dX3_restart_62 : decode cX3_restart 62 = .ok (.iconst (-1), 1) := by decide +kernel
theorem dX3_restart_63 : decode cX3_restart 63 = .ok (.putfield 109, 3) := by decide +kernel
theorem dX3_restart_66 : decode cX3_restart 66 = .ok (.aload_n 0, 1) := by decide +kernel
theorem dX3_restart_67 : decode cX3_restart 67 = .ok (.iconst 0, 1) := by decide +kernel
theorem dX3_restart_68 : decode cX3_restart 68 = .ok (.putfield 112, 3) := by decide +kernel
theorem dX3_restart_71 : decode cX3_restart 71 = .ok (.aload_n 0, 1) := by decide +kernel
theorem dX3_restart_72 : decode cX3_restart 72 = .ok (.iconst 0, 1) := by decide +kernel
theorem dX3_restart_73 : decode cX3_restart 73 = .ok (.putfield 31, 3) := by decide +kernel
theorem dX3_restart_76 : decode cX3_restart 76 = .ok (.aload_n 0, 1) := by decide +kernel
theorem dX3_restart_77 : decode cX3_restart 77 = .ok (.iconst 0, 1) := by decide +kernel
theorem dX3_restart_78 : decode cX3_restart 78 = .ok (.putfield 74, 3) := by decide +kernel
theorem dX3_restart_81 : decode cX3_restart 81 = .ok (.aload_n 0, 1) := by decide +kernel
theorem dX3_restart_82 : decode cX3_restart 82 = .ok (.iconst 0, 1) := by decide +kernel
theorem dX3_restart_83 : decode cX3_restart 83 = .ok (.putfield 63, 3) := by decide +kernel
theorem dX3_restart_86 : decode cX3_restart 86 = .ok (.aload_n 0, 1) := by decide +kernel
theorem dX3_restart_87 : decode cX3_restart 87 = .ok (.iconst 0, 1) := by decide +kernel
theorem dX3_restart_88 : decode cX3_restart 88 = .ok (.putfield 71, 3) := by decide +kernel
theorem dX3_restart_91 : decode cX3_restart 91 = .ok (.aload_n 0, 1) := by decide +kernel
theorem dX3_restart_92 : decode cX3_restart 92 = .ok (.iconst 0, 1) := by decide +kernel
theorem dX3_restart_93 : decode cX3_restart 93 = .ok (.putfield 115, 3) := by decide +kernel
theorem dX3_restart_96 : decode cX3_restart 96 = .ok (.aload_n 0, 1) := by decide +kernel
theorem dX3_restart_97 : decode cX3_restart 97 = .ok (.iconst 0, 1) := by decide +kernel
theorem dX3_restart_98 : decode cX3_restart 98 = .ok (.putfield 118, 3) := by decide +kernel
theorem dX3_restart_101 : decode cX3_restart 101 = .ok (.aload_n 0, 1) := by decide +kernel
theorem dX3_restart_102 : decode cX3_restart 102 = .ok (.iconst 0, 1) := by decide +kernel
theorem dX3_restart_103 : decode cX3_restart 103 = .ok (.putfield 121, 3) := by decide +kernel
theorem dX3_restart_106 : decode cX3_restart 106 = .ok (.return_, 1) := by decide +kernel
theorem dX3_rests_0 : decode cX3_rests 0 = .ok (.aload_n 0, 1) := by decide +kernel
theorem dX3_rests_1 : decode cX3_rests 1 = .ok (.getfield 44, 3) := by decide +kernel
theorem dX3_rests_4 : decode cX3_rests 4 = .ok (.iconst 2, 1) := by decide +kernel
theorem dX3_rests_5 : decode cX3_rests 5 = .ok (.if_icmp .eq 29, 3) := by decide +kernel
theorem dX3_rests_8 : decode cX3_rests 8 = .ok (.aload_n 0, 1) := by decide +kernel
theorem dX3_rests_9 : decode cX3_rests 9 = .ok (.getfield 44, 3) := by decide +kernel
theorem dX3_rests_12 : decode cX3_rests 12 = .ok (.iconst 3, 1) := by decide +kernel
theorem dX3_rests_13 : decode cX3_rests 13 = .ok (.if_icmp .eq 21, 3) := by decide +kernel
theorem dX3_rests_16 : decode cX3_rests 16 = .ok (.aload_n 0, 1) := by decide +kernel
theorem dX3_rests_17 : decode cX3_rests 17 = .ok (.getfield 44, 3) := by decide +kernel
theorem dX3_rests_20 : decode cX3_rests 20 = .ok (.iconst 1, 1) := by decide +kernel
theorem dX3_rests_21 : decode cX3_rests 21 = .ok (.if_icmp .ne 17, 3) := by decide +kernel
theorem dX3_rests_24 : decode cX3_rests 24 = .ok (.aload_n 0, 1) := by decide +kernel
theorem dX3_rests_25 : decode cX3_rests 25 = .ok (.getfield 14, 3) := by decide +kernel
theorem dX3_rests_28 : decode cX3_rests 28 = .ok (.getfield 41, 3) := by decide +kernel
theorem dX3_rests_31 : decode cX3_rests 31 = .ok (.ifCond .ne 7, 3) := by decide +kernel
theorem dX3_rests_34 : decode cX3_rests 34 = .ok (.iconst 1, 1) := by decide +kernel
theorem dX3_rests_35 : decode cX3_rests 35 = .ok (.goto 4, 3) := by decide +kernel
theorem dX3_rests_38 : decode cX3_rests 38 = .ok (.iconst 0, 1) := by decide +kernel
theorem dX3_rests_39 : decode cX3_rests 39 = .ok (.ireturn, 1) := by decide +kernel
theorem dX3_side_0 : decode cX3_side 0 = .ok (.aload_n 0, 1) := by decide +kernel
theorem dX3_side_1 : decode cX3_side 1 = .ok (.getfield 44, 3) := by decide +kernel
theorem dX3_side_4 : decode cX3_side 4 = .ok (.iconst 2, 1) := by decide +kernel
theorem dX3_side_5 : decode cX3_side 5 = .ok (.if_icmp .eq 5, 3) := by decide +kernel
theorem dX3_side_8 : decode cX3_side 8 = .ok (.iconst 0, 1) := by decide +kernel
theorem dX3_side_9 : decode cX3_side 9 = .ok (.ireturn, 1) := by decide +kernel
theorem dX3_take_0 : decode cX3_take 0 = .ok (.aload_n 0, 1) := by decide +kernel
theorem dX3_take_1 : decode cX3_take 1 = .ok (.aload_n 1, 1) := by decide +kernel
theorem dX3_take_2 : decode cX3_take 2 = .ok (.putfield 23, 3) := by decide +kernel
theorem dX3_take_5 : decode cX3_take 5 = .ok (.aload_n 0, 1) := by decide +kernel
theorem dX3_take_6 : decode cX3_take 6 = .ok (.iconst (-1), 1) := by decide +kernel
theorem dX3_take_7 : decode cX3_take 7 = .ok (.putfield 27, 3) := by decide +kernel
theorem dX3_take_10 : decode cX3_take 10 = .ok (.return_, 1) := by decide +kernel
theorem dX3_unlike_0 : decode cX3_unlike 0 = .ok (.aload_n 0, 1) := by decide +kernel
theorem dX3_unlike_1 : decode cX3_unlike 1 = .ok (.invokevirtual 216, 3) := by decide +kernel
theorem dX3_unlike_4 : decode cX3_unlike 4 = .ok (.iconst 3, 1) := by decide +kernel
theorem dX3_unlike_5 : decode cX3_unlike 5 = .ok (.if_icmp .ne 7, 3) := by decide +kernel
theorem dX3_unlike_12 : decode cX3_unlike 12 = .ok (.aload_n 0, 1) := by decide +kernel
theorem dX3_unlike_13 : decode cX3_unlike 13 = .ok (.invokevirtual 220, 3) := by decide +kernel
theorem dX3_unlike_16 : decode cX3_unlike 16 = .ok (.ireturn, 1) := by decide +kernel
theorem dX4_bucketOf_0 : decode cX4_bucketOf 0 = .ok (.iload_n 0, 1) := by decide +kernel
theorem dX4_bucketOf_1 : decode cX4_bucketOf 1 = .ok (.bipush 31, 2) := by decide +kernel
theorem dX4_bucketOf_3 : decode cX4_bucketOf 3 = .ok (.imul, 1) := by decide +kernel
theorem dX4_bucketOf_4 : decode cX4_bucketOf 4 = .ok (.iload_n 1, 1) := by decide +kernel
theorem dX4_bucketOf_5 : decode cX4_bucketOf 5 = .ok (.iadd, 1) := by decide +kernel
theorem dX4_bucketOf_6 : decode cX4_bucketOf 6 = .ok (.bipush 31, 2) := by decide +kernel
theorem dX4_bucketOf_8 : decode cX4_bucketOf 8 = .ok (.imul, 1) := by decide +kernel
theorem dX4_bucketOf_9 : decode cX4_bucketOf 9 = .ok (.iload_n 2, 1) := by decide +kernel
theorem dX4_bucketOf_10 : decode cX4_bucketOf 10 = .ok (.iadd, 1) := by decide +kernel
theorem dX4_bucketOf_11 : decode cX4_bucketOf 11 = .ok (.istore_n 3, 1) := by decide +kernel
theorem dX4_bucketOf_12 : decode cX4_bucketOf 12 = .ok (.iload_n 3, 1) := by decide +kernel
theorem dX4_bucketOf_13 : decode cX4_bucketOf 13 = .ok (.iload_n 3, 1) := by decide +kernel
theorem dX4_bucketOf_14 : decode cX4_bucketOf 14 = .ok (.bipush 7, 2) := by decide +kernel
theorem dX4_bucketOf_16 : decode cX4_bucketOf 16 = .ok (.iushr, 1) := by decide +kernel
theorem dX4_bucketOf_17 : decode cX4_bucketOf 17 = .ok (.ixor, 1) := by decide +kernel
theorem dX4_bucketOf_18 : decode cX4_bucketOf 18 = .ok (.bipush 63, 2) := by decide +kernel
theorem dX4_bucketOf_20 : decode cX4_bucketOf 20 = .ok (.iand, 1) := by decide +kernel
theorem dX4_bucketOf_21 : decode cX4_bucketOf 21 = .ok (.ireturn, 1) := by decide +kernel
theorem dX4_cutTo_0 : decode cX4_cutTo 0 = .ok (.aload_n 0, 1) := by decide +kernel
theorem dX4_cutTo_1 : decode cX4_cutTo 1 = .ok (.getfield 14, 3) := by decide +kernel
theorem dX4_cutTo_4 : decode cX4_cutTo 4 = .ok (.getfield 60, 3) := by decide +kernel
theorem dX4_cutTo_7 : decode cX4_cutTo 7 = .ok (.iconst 1, 1) := by decide +kernel
theorem dX4_cutTo_8 : decode cX4_cutTo 8 = .ok (.isub, 1) := by decide +kernel
theorem dX4_cutTo_9 : decode cX4_cutTo 9 = .ok (.istore_n 2, 1) := by decide +kernel
theorem dX4_cutTo_10 : decode cX4_cutTo 10 = .ok (.iload_n 2, 1) := by decide +kernel
theorem dX4_cutTo_11 : decode cX4_cutTo 11 = .ok (.iload_n 1, 1) := by decide +kernel
theorem dX4_cutTo_12 : decode cX4_cutTo 12 = .ok (.if_icmp .lt 61, 3) := by decide +kernel
theorem dX4_cutTo_73 : decode cX4_cutTo 73 = .ok (.aload_n 0, 1) := by decide +kernel
theorem dX4_cutTo_74 : decode cX4_cutTo 74 = .ok (.getfield 14, 3) := by decide +kernel
theorem dX4_cutTo_77 : decode cX4_cutTo 77 = .ok (.iload_n 1, 1) := by decide +kernel
theorem dX4_cutTo_78 : decode cX4_cutTo 78 = .ok (.invokevirtual 64, 3) := by decide +kernel
theorem dX4_cutTo_81 : decode cX4_cutTo 81 = .ok (.return_, 1) := by decide +kernel
theorem dX4_find_0 : decode cX4_find 0 = .ok (.iload_n 1, 1) := by decide +kernel
theorem dX4_find_1 : decode cX4_find 1 = .ok (.iload_n 2, 1) := by decide +kernel
theorem dX4_find_2 : decode cX4_find 2 = .ok (.iload_n 3, 1) := by decide +kernel
theorem dX4_find_3 : decode cX4_find 3 = .ok (.invokestatic 30, 3) := by decide +kernel
theorem dX4_find_6 : decode cX4_find 6 = .ok (.istore 4, 2) := by decide +kernel
theorem dX4_find_8 : decode cX4_find 8 = .ok (.aload_n 0, 1) := by decide +kernel
theorem dX4_find_9 : decode cX4_find 9 = .ok (.getfield 20, 3) := by decide +kernel
theorem dX4_find_12 : decode cX4_find 12 = .ok (.iload 4, 2) := by decide +kernel
theorem dX4_find_14 : decode cX4_find 14 = .ok (.invokestatic 34, 3) := by decide +kernel
theorem dX4_find_17 : decode cX4_find 17 = .ok (.istore 5, 2) := by decide +kernel
theorem dX4_find_19 : decode cX4_find 19 = .ok (.iload 5, 2) := by decide +kernel
theorem dX4_find_21 : decode cX4_find 21 = .ok (.istore 6, 2) := by decide +kernel
theorem dX4_find_23 : decode cX4_find 23 = .ok (.iconst 0, 1) := by decide +kernel
theorem dX4_find_24 : decode cX4_find 24 = .ok (.istore 7, 2) := by decide +kernel
theorem dX4_find_26 : decode cX4_find 26 = .ok (.iload 6, 2) := by decide +kernel
theorem dX4_find_28 : decode cX4_find 28 = .ok (.ifCond .lt 46, 3) := by decide +kernel
theorem dX4_find_74 : decode cX4_find 74 = .ok (.iconst 1, 1) := by decide +kernel
theorem dX4_find_75 : decode cX4_find 75 = .ok (.iconst 0, 1) := by decide +kernel
theorem dX4_find_76 : decode cX4_find 76 = .ok (.aload_n 0, 1) := by decide +kernel
theorem dX4_find_77 : decode cX4_find 77 = .ok (.getfield 14, 3) := by decide +kernel
theorem dX4_find_80 : decode cX4_find 80 = .ok (.iload_n 2, 1) := by decide +kernel
theorem dX4_find_81 : decode cX4_find 81 = .ok (.iconst 3, 1) := by decide +kernel
theorem dX4_find_82 : decode cX4_find 82 = .ok (.invokevirtual 43, 3) := by decide +kernel
theorem dX4_find_85 : decode cX4_find 85 = .ok (.invokestatic 47, 3) := by decide +kernel
theorem dX4_find_88 : decode cX4_find 88 = .ok (.iadd, 1) := by decide +kernel
theorem dX4_find_89 : decode cX4_find 89 = .ok (.iconst 0, 1) := by decide +kernel
theorem dX4_find_90 : decode cX4_find 90 = .ok (.aload_n 0, 1) := by decide +kernel
theorem dX4_find_91 : decode cX4_find 91 = .ok (.getfield 14, 3) := by decide +kernel
theorem dX4_find_94 : decode cX4_find 94 = .ok (.iload_n 3, 1) := by decide +kernel
theorem dX4_find_95 : decode cX4_find 95 = .ok (.iconst 3, 1) := by decide +kernel
theorem dX4_find_96 : decode cX4_find 96 = .ok (.invokevirtual 43, 3) := by decide +kernel
theorem dX4_find_99 : decode cX4_find 99 = .ok (.invokestatic 47, 3) := by decide +kernel
theorem dX4_find_102 : decode cX4_find 102 = .ok (.iadd, 1) := by decide +kernel
theorem dX4_find_103 : decode cX4_find 103 = .ok (.istore 7, 2) := by decide +kernel
theorem dX4_find_105 : decode cX4_find 105 = .ok (.iconst 1, 1) := by decide +kernel
theorem dX4_find_106 : decode cX4_find 106 = .ok (.aload_n 0, 1) := by decide +kernel
theorem dX4_find_107 : decode cX4_find 107 = .ok (.getfield 14, 3) := by decide +kernel
theorem dX4_find_110 : decode cX4_find 110 = .ok (.iload_n 2, 1) := by decide +kernel
theorem dX4_find_111 : decode cX4_find 111 = .ok (.iconst 4, 1) := by decide +kernel
theorem dX4_find_112 : decode cX4_find 112 = .ok (.invokevirtual 43, 3) := by decide +kernel
theorem dX4_find_115 : decode cX4_find 115 = .ok (.invokestatic 47, 3) := by decide +kernel
theorem dX4_find_118 : decode cX4_find 118 = .ok (.istore 8, 2) := by decide +kernel
theorem dX4_find_120 : decode cX4_find 120 = .ok (.iload_n 3, 1) := by decide +kernel
theorem dX4_find_121 : decode cX4_find 121 = .ok (.ifCond .lt 21, 3) := by decide +kernel
theorem dX4_find_124 : decode cX4_find 124 = .ok (.iconst 1, 1) := by decide +kernel
theorem dX4_find_125 : decode cX4_find 125 = .ok (.iload 8, 2) := by decide +kernel
theorem dX4_find_127 : decode cX4_find 127 = .ok (.aload_n 0, 1) := by decide +kernel
theorem dX4_find_128 : decode cX4_find 128 = .ok (.getfield 14, 3) := by decide +kernel
theorem dX4_find_131 : decode cX4_find 131 = .ok (.iload_n 3, 1) := by decide +kernel
theorem dX4_find_132 : decode cX4_find 132 = .ok (.iconst 4, 1) := by decide +kernel
theorem dX4_find_133 : decode cX4_find 133 = .ok (.invokevirtual 43, 3) := by decide +kernel
theorem dX4_find_136 : decode cX4_find 136 = .ok (.invokestatic 47, 3) := by decide +kernel
theorem dX4_find_139 : decode cX4_find 139 = .ok (.iadd, 1) := by decide +kernel
theorem dX4_find_140 : decode cX4_find 140 = .ok (.istore 8, 2) := by decide +kernel
theorem dX4_find_142 : decode cX4_find 142 = .ok (.aload_n 0, 1) := by decide +kernel
theorem dX4_find_143 : decode cX4_find 143 = .ok (.getfield 14, 3) := by decide +kernel
theorem dX4_find_146 : decode cX4_find 146 = .ok (.iload_n 1, 1) := by decide +kernel
theorem dX4_find_147 : decode cX4_find 147 = .ok (.iload_n 2, 1) := by decide +kernel
theorem dX4_find_148 : decode cX4_find 148 = .ok (.iload_n 3, 1) := by decide +kernel
theorem dX4_find_149 : decode cX4_find 149 = .ok (.iload 7, 2) := by decide +kernel
theorem dX4_find_151 : decode cX4_find 151 = .ok (.iload 8, 2) := by decide +kernel
theorem dX4_find_153 : decode cX4_find 153 = .ok (.iload 5, 2) := by decide +kernel
theorem dX4_find_155 : decode cX4_find 155 = .ok (.invokevirtual 52, 3) := by decide +kernel
theorem dX4_find_158 : decode cX4_find 158 = .ok (.istore 9, 2) := by decide +kernel
theorem dX4_find_160 : decode cX4_find 160 = .ok (.iload 9, 2) := by decide +kernel
theorem dX4_find_162 : decode cX4_find 162 = .ok (.ifCond .lt 14, 3) := by decide +kernel
theorem dX4_find_165 : decode cX4_find 165 = .ok (.aload_n 0, 1) := by decide +kernel
theorem dX4_find_166 : decode cX4_find 166 = .ok (.getfield 20, 3) := by decide +kernel
theorem dX4_find_169 : decode cX4_find 169 = .ok (.iload 4, 2) := by decide +kernel
theorem dX4_find_171 : decode cX4_find 171 = .ok (.iload 9, 2) := by decide +kernel
theorem dX4_find_173 : decode cX4_find 173 = .ok (.invokestatic 56, 3) := by decide +kernel
theorem dX4_find_176 : decode cX4_find 176 = .ok (.iload 9, 2) := by decide +kernel
theorem dX4_find_178 : decode cX4_find 178 = .ok (.ireturn, 1) := by decide +kernel
theorem dX4_init_0 : decode cX4_init 0 = .ok (.aload_n 0, 1) := by decide +kernel
theorem dX4_init_1 : decode cX4_init 1 = .ok (.invokespecial 3, 3) := by decide +kernel
theorem dX4_init_4 : decode cX4_init 4 = .ok (.aload_n 0, 1) := by decide +kernel
theorem dX4_init_5 : decode cX4_init 5 = .ok (.new 9, 3) := by decide +kernel
theorem dX4_init_8 : decode cX4_init 8 = .ok (.dup, 1) := by decide +kernel
theorem dX4_init_9 : decode cX4_init 9 = .ok (.bipush 24, 2) := by decide +kernel
theorem dX4_init_11 : decode cX4_init 11 = .ok (.invokespecial 11, 3) := by decide +kernel
theorem dX4_init_14 : decode cX4_init 14 = .ok (.putfield 14, 3) := by decide +kernel
theorem dX4_init_17 : decode cX4_init 17 = .ok (.aload_n 0, 1) := by decide +kernel
theorem dX4_init_18 : decode cX4_init 18 = .ok (.bipush 64, 2) := by decide +kernel
theorem dX4_init_20 : decode cX4_init 20 = .ok (.newarray .int, 2) := by decide +kernel
theorem dX4_init_22 : decode cX4_init 22 = .ok (.putfield 20, 3) := by decide +kernel
theorem dX4_init_25 : decode cX4_init 25 = .ok (.aload_n 0, 1) := by decide +kernel
theorem dX4_init_26 : decode cX4_init 26 = .ok (.getfield 20, 3) := by decide +kernel
theorem dX4_init_29 : decode cX4_init 29 = .ok (.iconst (-1), 1) := by decide +kernel
theorem dX4_init_30 : decode cX4_init 30 = .ok (.invokestatic 24, 3) := by decide +kernel
theorem dX4_init_33 : decode cX4_init 33 = .ok (.return_, 1) := by decide +kernel
theorem dX5_init_0 : decode cX5_init 0 = .ok (.aload_n 0, 1) := by decide +kernel
theorem dX5_init_1 : decode cX5_init 1 = .ok (.invokespecial 3, 3) := by decide +kernel
theorem dX5_init_4 : decode cX5_init 4 = .ok (.aload_n 0, 1) := by decide +kernel
theorem dX5_init_5 : decode cX5_init 5 = .ok (.sipush 241, 3) := by decide +kernel
theorem dX5_init_8 : decode cX5_init 8 = .ok (.newarray .int, 2) := by decide +kernel
theorem dX5_init_10 : decode cX5_init 10 = .ok (.putfield 9, 3) := by decide +kernel
theorem dX5_init_13 : decode cX5_init 13 = .ok (.aload_n 0, 1) := by decide +kernel
theorem dX5_init_14 : decode cX5_init 14 = .ok (.sipush 241, 3) := by decide +kernel
theorem dX5_init_17 : decode cX5_init 17 = .ok (.newarray .int, 2) := by decide +kernel
theorem dX5_init_19 : decode cX5_init 19 = .ok (.putfield 15, 3) := by decide +kernel
theorem dX5_init_22 : decode cX5_init 22 = .ok (.aload_n 0, 1) := by decide +kernel
theorem dX5_init_23 : decode cX5_init 23 = .ok (.sipush 241, 3) := by decide +kernel
theorem dX5_init_26 : decode cX5_init 26 = .ok (.newarray .int, 2) := by decide +kernel
theorem dX5_init_28 : decode cX5_init 28 = .ok (.putfield 18, 3) := by decide +kernel
theorem dX5_init_31 : decode cX5_init 31 = .ok (.aload_n 0, 1) := by decide +kernel
theorem dX5_init_32 : decode cX5_init 32 = .ok (.sipush 241, 3) := by decide +kernel
theorem dX5_init_35 : decode cX5_init 35 = .ok (.newarray .int, 2) := by decide +kernel
theorem dX5_init_37 : decode cX5_init 37 = .ok (.putfield 21, 3) := by decide +kernel
theorem dX5_init_40 : decode cX5_init 40 = .ok (.aload_n 0, 1) := by decide +kernel
theorem dX5_init_41 : decode cX5_init 41 = .ok (.aload_n 1, 1) := by decide +kernel
theorem dX5_init_42 : decode cX5_init 42 = .ok (.putfield 24, 3) := by decide +kernel
theorem dX5_init_45 : decode cX5_init 45 = .ok (.return_, 1) := by decide +kernel
theorem dX6_add_0 : decode cX6_add 0 = .ok (.aload_n 0, 1) := by decide +kernel
theorem dX6_add_1 : decode cX6_add 1 = .ok (.getfield 25, 3) := by decide +kernel
theorem dX6_add_4 : decode cX6_add 4 = .ok (.bipush 6, 2) := by decide +kernel
theorem dX6_add_6 : decode cX6_add 6 = .ok (.imul, 1) := by decide +kernel
theorem dX6_add_7 : decode cX6_add 7 = .ok (.istore 7, 2) := by decide +kernel
theorem dX6_add_9 : decode cX6_add 9 = .ok (.iload 7, 2) := by decide +kernel
theorem dX6_add_11 : decode cX6_add 11 = .ok (.bipush 6, 2) := by decide +kernel
theorem dX6_add_13 : decode cX6_add 13 = .ok (.iadd, 1) := by decide +kernel
theorem dX6_add_14 : decode cX6_add 14 = .ok (.aload_n 0, 1) := by decide +kernel
theorem dX6_add_15 : decode cX6_add 15 = .ok (.getfield 21, 3) := by decide +kernel
theorem dX6_add_18 : decode cX6_add 18 = .ok (.arraylength, 1) := by decide +kernel
theorem dX6_add_19 : decode cX6_add 19 = .ok (.if_icmp .le 30, 3) := by decide +kernel
theorem dX6_add_49 : decode cX6_add 49 = .ok (.iload 7, 2) := by decide +kernel
theorem dX6_add_51 : decode cX6_add 51 = .ok (.ifCond .lt 16, 3) := by decide +kernel
theorem dX6_add_54 : decode cX6_add 54 = .ok (.iload 7, 2) := by decide +kernel
theorem dX6_add_56 : decode cX6_add 56 = .ok (.bipush 6, 2) := by decide +kernel
theorem dX6_add_58 : decode cX6_add 58 = .ok (.iadd, 1) := by decide +kernel
theorem dX6_add_59 : decode cX6_add 59 = .ok (.aload_n 0, 1) := by decide +kernel
theorem dX6_add_60 : decode cX6_add 60 = .ok (.getfield 21, 3) := by decide +kernel
theorem dX6_add_63 : decode cX6_add 63 = .ok (.arraylength, 1) := by decide +kernel
theorem dX6_add_64 : decode cX6_add 64 = .ok (.if_icmp .le 5, 3) := by decide +kernel
theorem dX6_add_69 : decode cX6_add 69 = .ok (.aload_n 0, 1) := by decide +kernel
theorem dX6_add_70 : decode cX6_add 70 = .ok (.getfield 21, 3) := by decide +kernel
theorem dX6_add_73 : decode cX6_add 73 = .ok (.iload 7, 2) := by decide +kernel
theorem dX6_add_75 : decode cX6_add 75 = .ok (.iload_n 1, 1) := by decide +kernel
theorem dX6_add_76 : decode cX6_add 76 = .ok (.iastore, 1) := by decide +kernel
theorem dX6_add_77 : decode cX6_add 77 = .ok (.aload_n 0, 1) := by decide +kernel
theorem dX6_add_78 : decode cX6_add 78 = .ok (.getfield 21, 3) := by decide +kernel
theorem dX6_add_81 : decode cX6_add 81 = .ok (.iload 7, 2) := by decide +kernel
theorem dX6_add_83 : decode cX6_add 83 = .ok (.iconst 1, 1) := by decide +kernel
theorem dX6_add_84 : decode cX6_add 84 = .ok (.iadd, 1) := by decide +kernel
theorem dX6_add_85 : decode cX6_add 85 = .ok (.iload_n 2, 1) := by decide +kernel
theorem dX6_add_86 : decode cX6_add 86 = .ok (.iastore, 1) := by decide +kernel
theorem dX6_add_87 : decode cX6_add 87 = .ok (.aload_n 0, 1) := by decide +kernel
theorem dX6_add_88 : decode cX6_add 88 = .ok (.getfield 21, 3) := by decide +kernel
theorem dX6_add_91 : decode cX6_add 91 = .ok (.iload 7, 2) := by decide +kernel
theorem dX6_add_93 : decode cX6_add 93 = .ok (.iconst 2, 1) := by decide +kernel
theorem dX6_add_94 : decode cX6_add 94 = .ok (.iadd, 1) := by decide +kernel
theorem dX6_add_95 : decode cX6_add 95 = .ok (.iload_n 3, 1) := by decide +kernel
theorem dX6_add_96 : decode cX6_add 96 = .ok (.iastore, 1) := by decide +kernel
theorem dX6_add_97 : decode cX6_add 97 = .ok (.aload_n 0, 1) := by decide +kernel
theorem dX6_add_98 : decode cX6_add 98 = .ok (.getfield 21, 3) := by decide +kernel
theorem dX6_add_101 : decode cX6_add 101 = .ok (.iload 7, 2) := by decide +kernel
theorem dX6_add_103 : decode cX6_add 103 = .ok (.iconst 3, 1) := by decide +kernel
theorem dX6_add_104 : decode cX6_add 104 = .ok (.iadd, 1) := by decide +kernel
theorem dX6_add_105 : decode cX6_add 105 = .ok (.iload 4, 2) := by decide +kernel
theorem dX6_add_107 : decode cX6_add 107 = .ok (.iastore, 1) := by decide +kernel
theorem dX6_add_108 : decode cX6_add 108 = .ok (.aload_n 0, 1) := by decide +kernel
theorem dX6_add_109 : decode cX6_add 109 = .ok (.getfield 21, 3) := by decide +kernel
theorem dX6_add_112 : decode cX6_add 112 = .ok (.iload 7, 2) := by decide +kernel
theorem dX6_add_114 : decode cX6_add 114 = .ok (.iconst 4, 1) := by decide +kernel
theorem dX6_add_115 : decode cX6_add 115 = .ok (.iadd, 1) := by decide +kernel
theorem dX6_add_116 : decode cX6_add 116 = .ok (.iload 5, 2) := by decide +kernel
theorem dX6_add_118 : decode cX6_add 118 = .ok (.iastore, 1) := by decide +kernel
theorem dX6_add_119 : decode cX6_add 119 = .ok (.aload_n 0, 1) := by decide +kernel
theorem dX6_add_120 : decode cX6_add 120 = .ok (.getfield 21, 3) := by decide +kernel
theorem dX6_add_123 : decode cX6_add 123 = .ok (.iload 7, 2) := by decide +kernel
theorem dX6_add_125 : decode cX6_add 125 = .ok (.iconst 5, 1) := by decide +kernel
theorem dX6_add_126 : decode cX6_add 126 = .ok (.iadd, 1) := by decide +kernel
theorem dX6_add_127 : decode cX6_add 127 = .ok (.iload 6, 2) := by decide +kernel
theorem dX6_add_129 : decode cX6_add 129 = .ok (.iastore, 1) := by decide +kernel
theorem dX6_add_130 : decode cX6_add 130 = .ok (.aload_n 0, 1) := by decide +kernel
theorem dX6_add_131 : decode cX6_add 131 = .ok (.dup, 1) := by decide +kernel
theorem dX6_add_132 : decode cX6_add 132 = .ok (.getfield 25, 3) := by decide +kernel
theorem dX6_add_135 : decode cX6_add 135 = .ok (.iconst 1, 1) := by decide +kernel
theorem dX6_add_136 : decode cX6_add 136 = .ok (.iadd, 1) := by decide +kernel
theorem dX6_add_137 : decode cX6_add 137 = .ok (.putfield 25, 3) := by decide +kernel
theorem dX6_add_140 : decode cX6_add 140 = .ok (.aload_n 0, 1) := by decide +kernel
theorem dX6_add_141 : decode cX6_add 141 = .ok (.getfield 25, 3) := by decide +kernel
theorem dX6_add_144 : decode cX6_add 144 = .ok (.iconst 1, 1) := by decide +kernel
theorem dX6_add_145 : decode cX6_add 145 = .ok (.isub, 1) := by decide +kernel
theorem dX6_add_146 : decode cX6_add 146 = .ok (.ireturn, 1) := by decide +kernel
theorem dX6_cut_0 : decode cX6_cut 0 = .ok (.aload_n 0, 1) := by decide +kernel
theorem dX6_cut_1 : decode cX6_cut 1 = .ok (.iconst 0, 1) := by decide +kernel
theorem dX6_cut_2 : decode cX6_cut 2 = .ok (.aload_n 0, 1) := by decide +kernel
theorem dX6_cut_3 : decode cX6_cut 3 = .ok (.getfield 25, 3) := by decide +kernel
theorem dX6_cut_6 : decode cX6_cut 6 = .ok (.iload_n 1, 1) := by decide +kernel
theorem dX6_cut_7 : decode cX6_cut 7 = .ok (.invokestatic 12, 3) := by decide +kernel
theorem dX6_cut_10 : decode cX6_cut 10 = .ok (.invokestatic 18, 3) := by decide +kernel
theorem dX6_cut_13 : decode cX6_cut 13 = .ok (.putfield 25, 3) := by decide +kernel
theorem dX6_cut_16 : decode cX6_cut 16 = .ok (.return_, 1) := by decide +kernel
theorem dX6_get_0 : decode cX6_get 0 = .ok (.iload_n 1, 1) := by decide +kernel
theorem dX6_get_1 : decode cX6_get 1 = .ok (.bipush 6, 2) := by decide +kernel
theorem dX6_get_3 : decode cX6_get 3 = .ok (.imul, 1) := by decide +kernel
theorem dX6_get_4 : decode cX6_get 4 = .ok (.iload_n 2, 1) := by decide +kernel
theorem dX6_get_5 : decode cX6_get 5 = .ok (.iadd, 1) := by decide +kernel
theorem dX6_get_6 : decode cX6_get 6 = .ok (.istore_n 3, 1) := by decide +kernel
theorem dX6_get_7 : decode cX6_get 7 = .ok (.iload_n 1, 1) := by decide +kernel
theorem dX6_get_8 : decode cX6_get 8 = .ok (.ifCond .lt 25, 3) := by decide +kernel
