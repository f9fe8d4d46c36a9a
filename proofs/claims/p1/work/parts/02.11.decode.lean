theorem dX11_tallyValue_1 : decode cX11_tallyValue 1 = .ok (.getfield 68, 3) := by decide +kernel
theorem dX11_tallyValue_4 : decode cX11_tallyValue 4 = .ok (.iconst 4, 1) := by decide +kernel
theorem dX11_tallyValue_5 : decode cX11_tallyValue 5 = .ok (.invokestatic 178, 3) := by decide +kernel
theorem dX11_tallyValue_8 : decode cX11_tallyValue 8 = .ok (.istore_n 3, 1) := by decide +kernel
theorem dX11_tallyValue_9 : decode cX11_tallyValue 9 = .ok (.iconst 0, 1) := by decide +kernel
theorem dX11_tallyValue_10 : decode cX11_tallyValue 10 = .ok (.istore 4, 2) := by decide +kernel
theorem dX11_tallyValue_12 : decode cX11_tallyValue 12 = .ok (.iload 4, 2) := by decide +kernel
theorem dX11_tallyValue_14 : decode cX11_tallyValue 14 = .ok (.iload_n 3, 1) := by decide +kernel
theorem dX11_tallyValue_15 : decode cX11_tallyValue 15 = .ok (.if_icmp .ge 42, 3) := by decide +kernel
theorem dX11_tallyValue_57 : decode cX11_tallyValue 57 = .ok (.aload_n 0, 1) := by decide +kernel
theorem dX11_tallyValue_58 : decode cX11_tallyValue 58 = .ok (.getfield 71, 3) := by decide +kernel
theorem dX11_tallyValue_61 : decode cX11_tallyValue 61 = .ok (.iconst 2, 1) := by decide +kernel
theorem dX11_tallyValue_62 : decode cX11_tallyValue 62 = .ok (.iload_n 3, 1) := by decide +kernel
theorem dX11_tallyValue_63 : decode cX11_tallyValue 63 = .ok (.imul, 1) := by decide +kernel
theorem dX11_tallyValue_64 : decode cX11_tallyValue 64 = .ok (.iload_n 1, 1) := by decide +kernel
theorem dX11_tallyValue_65 : decode cX11_tallyValue 65 = .ok (.invokestatic 82, 3) := by decide +kernel
theorem dX11_tallyValue_68 : decode cX11_tallyValue 68 = .ok (.aload_n 0, 1) := by decide +kernel
theorem dX11_tallyValue_69 : decode cX11_tallyValue 69 = .ok (.getfield 71, 3) := by decide +kernel
theorem dX11_tallyValue_72 : decode cX11_tallyValue 72 = .ok (.iconst 2, 1) := by decide +kernel
theorem dX11_tallyValue_73 : decode cX11_tallyValue 73 = .ok (.iload_n 3, 1) := by decide +kernel
theorem dX11_tallyValue_74 : decode cX11_tallyValue 74 = .ok (.imul, 1) := by decide +kernel
theorem dX11_tallyValue_75 : decode cX11_tallyValue 75 = .ok (.iconst 1, 1) := by decide +kernel
theorem dX11_tallyValue_76 : decode cX11_tallyValue 76 = .ok (.iadd, 1) := by decide +kernel
theorem dX11_tallyValue_77 : decode cX11_tallyValue 77 = .ok (.iload_n 2, 1) := by decide +kernel
theorem dX11_tallyValue_78 : decode cX11_tallyValue 78 = .ok (.invokestatic 82, 3) := by decide +kernel
theorem dX11_tallyValue_81 : decode cX11_tallyValue 81 = .ok (.aload_n 0, 1) := by decide +kernel
theorem dX11_tallyValue_82 : decode cX11_tallyValue 82 = .ok (.getfield 68, 3) := by decide +kernel
theorem dX11_tallyValue_85 : decode cX11_tallyValue 85 = .ok (.iconst 4, 1) := by decide +kernel
theorem dX11_tallyValue_86 : decode cX11_tallyValue 86 = .ok (.iload_n 3, 1) := by decide +kernel
theorem dX11_tallyValue_87 : decode cX11_tallyValue 87 = .ok (.iconst 1, 1) := by decide +kernel
theorem dX11_tallyValue_88 : decode cX11_tallyValue 88 = .ok (.iadd, 1) := by decide +kernel
theorem dX11_tallyValue_89 : decode cX11_tallyValue 89 = .ok (.invokestatic 82, 3) := by decide +kernel
theorem dX11_tallyValue_92 : decode cX11_tallyValue 92 = .ok (.return_, 1) := by decide +kernel
theorem dX11_text_0 : decode cX11_text 0 = .ok (.iload_n 3, 1) := by decide +kernel
theorem dX11_text_1 : decode cX11_text 1 = .ok (.iconst (-1), 1) := by decide +kernel
theorem dX11_text_2 : decode cX11_text 2 = .ok (.if_icmp .ge 5, 3) := by decide +kernel
theorem dX11_text_5 : decode cX11_text 5 = .ok (.iconst (-1), 1) := by decide +kernel
theorem dX11_text_6 : decode cX11_text 6 = .ok (.ireturn, 1) := by decide +kernel
theorem dX11_text_7 : decode cX11_text 7 = .ok (.aload_n 0, 1) := by decide +kernel
theorem dX11_text_8 : decode cX11_text 8 = .ok (.getfield 57, 3) := by decide +kernel
theorem dX11_text_11 : decode cX11_text 11 = .ok (.iload_n 3, 1) := by decide +kernel
theorem dX11_text_12 : decode cX11_text 12 = .ok (.invokevirtual 150, 3) := by decide +kernel
theorem dX11_text_15 : decode cX11_text 15 = .ok (.aload_n 0, 1) := by decide +kernel
theorem dX11_text_16 : decode cX11_text 16 = .ok (.iload_n 1, 1) := by decide +kernel
theorem dX11_text_17 : decode cX11_text 17 = .ok (.iload_n 2, 1) := by decide +kernel
theorem dX11_text_18 : decode cX11_text 18 = .ok (.invokevirtual 152, 3) := by decide +kernel
theorem dX11_text_21 : decode cX11_text 21 = .ok (.ifCond .ne 5, 3) := by decide +kernel
theorem dX11_text_24 : decode cX11_text 24 = .ok (.iconst (-1), 1) := by decide +kernel
theorem dX11_text_25 : decode cX11_text 25 = .ok (.ireturn, 1) := by decide +kernel
theorem dX11_text_26 : decode cX11_text 26 = .ok (.iload_n 3, 1) := by decide +kernel
theorem dX11_text_27 : decode cX11_text 27 = .ok (.iconst (-1), 1) := by decide +kernel
theorem dX11_text_28 : decode cX11_text 28 = .ok (.if_icmp .ne 13, 3) := by decide +kernel
theorem dX11_text_31 : decode cX11_text 31 = .ok (.aload_n 0, 1) := by decide +kernel
theorem dX11_text_32 : decode cX11_text 32 = .ok (.getfield 57, 3) := by decide +kernel
theorem dX11_text_35 : decode cX11_text 35 = .ok (.getfield 156, 3) := by decide +kernel
theorem dX11_text_38 : decode cX11_text 38 = .ok (.goto 10, 3) := by decide +kernel
theorem dX11_text_41 : decode cX11_text 41 = .ok (.aload_n 0, 1) := by decide +kernel
theorem dX11_text_42 : decode cX11_text 42 = .ok (.getfield 57, 3) := by decide +kernel
theorem dX11_text_45 : decode cX11_text 45 = .ok (.getfield 159, 3) := by decide +kernel
theorem dX11_text_48 : decode cX11_text 48 = .ok (.ireturn, 1) := by decide +kernel
theorem dX11_textsOf_0 : decode cX11_textsOf 0 = .ok (.iload_n 1, 1) := by decide +kernel
theorem dX11_textsOf_1 : decode cX11_textsOf 1 = .ok (.tableswitch 144 0 8 #[51, 59, 70, 81, 92, 103, 114, 122, 133], 51) := by decide +kernel
theorem dX11_textsOf_52 : decode cX11_textsOf 52 = .ok (.aload_n 0, 1) := by decide +kernel
theorem dX11_textsOf_53 : decode cX11_textsOf 53 = .ok (.getfield 64, 3) := by decide +kernel
theorem dX11_textsOf_56 : decode cX11_textsOf 56 = .ok (.getfield 128, 3) := by decide +kernel
theorem dX11_textsOf_59 : decode cX11_textsOf 59 = .ok (.ireturn, 1) := by decide +kernel
theorem dX11_textsOf_60 : decode cX11_textsOf 60 = .ok (.aload_n 0, 1) := by decide +kernel
theorem dX11_textsOf_61 : decode cX11_textsOf 61 = .ok (.getfield 29, 3) := by decide +kernel
theorem dX11_textsOf_64 : decode cX11_textsOf 64 = .ok (.getfield 103, 3) := by decide +kernel
theorem dX11_textsOf_67 : decode cX11_textsOf 67 = .ok (.getfield 107, 3) := by decide +kernel
theorem dX11_textsOf_70 : decode cX11_textsOf 70 = .ok (.ireturn, 1) := by decide +kernel
theorem dX11_textsOf_71 : decode cX11_textsOf 71 = .ok (.aload_n 0, 1) := by decide +kernel
theorem dX11_textsOf_72 : decode cX11_textsOf 72 = .ok (.getfield 29, 3) := by decide +kernel
theorem dX11_textsOf_75 : decode cX11_textsOf 75 = .ok (.getfield 103, 3) := by decide +kernel
theorem dX11_textsOf_78 : decode cX11_textsOf 78 = .ok (.getfield 116, 3) := by decide +kernel
theorem dX11_textsOf_81 : decode cX11_textsOf 81 = .ok (.ireturn, 1) := by decide +kernel
theorem dX11_textsOf_82 : decode cX11_textsOf 82 = .ok (.aload_n 0, 1) := by decide +kernel
theorem dX11_textsOf_83 : decode cX11_textsOf 83 = .ok (.getfield 29, 3) := by decide +kernel
theorem dX11_textsOf_86 : decode cX11_textsOf 86 = .ok (.getfield 119, 3) := by decide +kernel
theorem dX11_textsOf_89 : decode cX11_textsOf 89 = .ok (.getfield 123, 3) := by decide +kernel
theorem dX11_textsOf_92 : decode cX11_textsOf 92 = .ok (.ireturn, 1) := by decide +kernel
theorem dX11_textsOf_93 : decode cX11_textsOf 93 = .ok (.aload_n 0, 1) := by decide +kernel
theorem dX11_textsOf_94 : decode cX11_textsOf 94 = .ok (.getfield 29, 3) := by decide +kernel
theorem dX11_textsOf_97 : decode cX11_textsOf 97 = .ok (.getfield 119, 3) := by decide +kernel
theorem dX11_textsOf_100 : decode cX11_textsOf 100 = .ok (.getfield 123, 3) := by decide +kernel
theorem dX11_textsOf_103 : decode cX11_textsOf 103 = .ok (.ireturn, 1) := by decide +kernel
theorem dX11_textsOf_104 : decode cX11_textsOf 104 = .ok (.aload_n 0, 1) := by decide +kernel
theorem dX11_textsOf_105 : decode cX11_textsOf 105 = .ok (.getfield 29, 3) := by decide +kernel
theorem dX11_textsOf_108 : decode cX11_textsOf 108 = .ok (.getfield 119, 3) := by decide +kernel
theorem dX11_textsOf_111 : decode cX11_textsOf 111 = .ok (.getfield 123, 3) := by decide +kernel
theorem dX11_textsOf_114 : decode cX11_textsOf 114 = .ok (.ireturn, 1) := by decide +kernel
theorem dX11_textsOf_115 : decode cX11_textsOf 115 = .ok (.aload_n 0, 1) := by decide +kernel
theorem dX11_textsOf_116 : decode cX11_textsOf 116 = .ok (.getfield 64, 3) := by decide +kernel
theorem dX11_textsOf_119 : decode cX11_textsOf 119 = .ok (.getfield 131, 3) := by decide +kernel
theorem dX11_textsOf_122 : decode cX11_textsOf 122 = .ok (.ireturn, 1) := by decide +kernel
theorem dX11_textsOf_123 : decode cX11_textsOf 123 = .ok (.aload_n 0, 1) := by decide +kernel
theorem dX11_textsOf_124 : decode cX11_textsOf 124 = .ok (.getfield 29, 3) := by decide +kernel
theorem dX11_textsOf_127 : decode cX11_textsOf 127 = .ok (.getfield 103, 3) := by decide +kernel
theorem dX11_textsOf_130 : decode cX11_textsOf 130 = .ok (.getfield 107, 3) := by decide +kernel
theorem dX11_textsOf_133 : decode cX11_textsOf 133 = .ok (.ireturn, 1) := by decide +kernel
theorem dX11_textsOf_134 : decode cX11_textsOf 134 = .ok (.aload_n 0, 1) := by decide +kernel
theorem dX11_textsOf_135 : decode cX11_textsOf 135 = .ok (.getfield 29, 3) := by decide +kernel
theorem dX11_textsOf_138 : decode cX11_textsOf 138 = .ok (.getfield 103, 3) := by decide +kernel
theorem dX11_textsOf_141 : decode cX11_textsOf 141 = .ok (.getfield 107, 3) := by decide +kernel
theorem dX11_textsOf_144 : decode cX11_textsOf 144 = .ok (.ireturn, 1) := by decide +kernel
theorem dX11_textsOf_145 : decode cX11_textsOf 145 = .ok (.iconst 0, 1) := by decide +kernel
theorem dX11_textsOf_146 : decode cX11_textsOf 146 = .ok (.ireturn, 1) := by decide +kernel
theorem dX11_then_0 : decode cX11_then 0 = .ok (.aload_n 0, 1) := by decide +kernel
theorem dX11_then_1 : decode cX11_then 1 = .ok (.getfield 64, 3) := by decide +kernel
theorem dX11_then_4 : decode cX11_then 4 = .ok (.iload_n 1, 1) := by decide +kernel
theorem dX11_then_5 : decode cX11_then 5 = .ok (.invokevirtual 223, 3) := by decide +kernel
theorem dX11_then_8 : decode cX11_then 8 = .ok (.ifCond .eq 26, 3) := by decide +kernel
theorem dX11_then_34 : decode cX11_then 34 = .ok (.iconst (-1), 1) := by decide +kernel
theorem dX11_then_35 : decode cX11_then 35 = .ok (.ireturn, 1) := by decide +kernel
theorem dX11_trace_0 : decode cX11_trace 0 = .ok (.iload_n 1, 1) := by decide +kernel
theorem dX11_trace_1 : decode cX11_trace 1 = .ok (.ifCond .lt 28, 3) := by decide +kernel
theorem dX11_trace_4 : decode cX11_trace 4 = .ok (.iload_n 1, 1) := by decide +kernel
theorem dX11_trace_5 : decode cX11_trace 5 = .ok (.iconst 2, 1) := by decide +kernel
theorem dX11_trace_6 : decode cX11_trace 6 = .ok (.if_icmp .gt 23, 3) := by decide +kernel
theorem dX11_trace_9 : decode cX11_trace 9 = .ok (.iload_n 2, 1) := by decide +kernel
theorem dX11_trace_10 : decode cX11_trace 10 = .ok (.ifCond .lt 19, 3) := by decide +kernel
theorem dX11_trace_13 : decode cX11_trace 13 = .ok (.iload_n 2, 1) := by decide +kernel
theorem dX11_trace_14 : decode cX11_trace 14 = .ok (.sipush 1500, 3) := by decide +kernel
theorem dX11_trace_17 : decode cX11_trace 17 = .ok (.if_icmp .gt 12, 3) := by decide +kernel
theorem dX11_trace_20 : decode cX11_trace 20 = .ok (.iload_n 3, 1) := by decide +kernel
theorem dX11_trace_21 : decode cX11_trace 21 = .ok (.ifCond .lt 8, 3) := by decide +kernel
theorem dX11_trace_24 : decode cX11_trace 24 = .ok (.iload_n 3, 1) := by decide +kernel
theorem dX11_trace_25 : decode cX11_trace 25 = .ok (.iconst 3, 1) := by decide +kernel
theorem dX11_trace_26 : decode cX11_trace 26 = .ok (.if_icmp .le 5, 3) := by decide +kernel
theorem dX11_trace_29 : decode cX11_trace 29 = .ok (.iconst (-1), 1) := by decide +kernel
theorem dX11_trace_30 : decode cX11_trace 30 = .ok (.ireturn, 1) := by decide +kernel
theorem dX11_trace_31 : decode cX11_trace 31 = .ok (.aload_n 0, 1) := by decide +kernel
theorem dX11_trace_32 : decode cX11_trace 32 = .ok (.getfield 50, 3) := by decide +kernel
theorem dX11_trace_35 : decode cX11_trace 35 = .ok (.iload_n 1, 1) := by decide +kernel
theorem dX11_trace_36 : decode cX11_trace 36 = .ok (.iload_n 2, 1) := by decide +kernel
theorem dX11_trace_37 : decode cX11_trace 37 = .ok (.invokevirtual 240, 3) := by decide +kernel
theorem dX11_trace_40 : decode cX11_trace 40 = .ok (.aload_n 0, 1) := by decide +kernel
theorem dX11_trace_41 : decode cX11_trace 41 = .ok (.getfield 50, 3) := by decide +kernel
theorem dX11_trace_44 : decode cX11_trace 44 = .ok (.iload_n 3, 1) := by decide +kernel
theorem dX11_trace_45 : decode cX11_trace 45 = .ok (.invokevirtual 247, 3) := by decide +kernel
theorem dX11_trace_48 : decode cX11_trace 48 = .ok (.ireturn, 1) := by decide +kernel
theorem dX11_tries_0 : decode cX11_tries 0 = .ok (.iload_n 1, 1) := by decide +kernel
theorem dX11_tries_1 : decode cX11_tries 1 = .ok (.ifCond .lt 26, 3) := by decide +kernel
theorem dX11_tries_4 : decode cX11_tries 4 = .ok (.iload_n 1, 1) := by decide +kernel
theorem dX11_tries_5 : decode cX11_tries 5 = .ok (.aload_n 0, 1) := by decide +kernel
theorem dX11_tries_6 : decode cX11_tries 6 = .ok (.getfield 29, 3) := by decide +kernel
theorem dX11_tries_9 : decode cX11_tries 9 = .ok (.getfield 103, 3) := by decide +kernel
theorem dX11_tries_12 : decode cX11_tries 12 = .ok (.getfield 116, 3) := by decide +kernel
theorem dX11_tries_15 : decode cX11_tries 15 = .ok (.if_icmp .ge 12, 3) := by decide +kernel
theorem dX11_tries_27 : decode cX11_tries 27 = .ok (.iconst (-1), 1) := by decide +kernel
theorem dX11_tries_28 : decode cX11_tries 28 = .ok (.ireturn, 1) := by decide +kernel
theorem dX11_type_0 : decode cX11_type 0 = .ok (.iload_n 1, 1) := by decide +kernel
theorem dX11_type_1 : decode cX11_type 1 = .ok (.iconst 1, 1) := by decide +kernel
theorem dX11_type_2 : decode cX11_type 2 = .ok (.if_icmp .lt 17, 3) := by decide +kernel
theorem dX11_type_5 : decode cX11_type 5 = .ok (.iload_n 1, 1) := by decide +kernel
theorem dX11_type_6 : decode cX11_type 6 = .ok (.bipush 100, 2) := by decide +kernel
theorem dX11_type_8 : decode cX11_type 8 = .ok (.if_icmp .gt 11, 3) := by decide +kernel
theorem dX11_type_11 : decode cX11_type 11 = .ok (.iload_n 1, 1) := by decide +kernel
theorem dX11_type_12 : decode cX11_type 12 = .ok (.aload_n 0, 1) := by decide +kernel
theorem dX11_type_13 : decode cX11_type 13 = .ok (.getfield 13, 3) := by decide +kernel
theorem dX11_type_16 : decode cX11_type 16 = .ok (.if_icmp .le 5, 3) := by decide +kernel
theorem dX11_type_19 : decode cX11_type 19 = .ok (.iconst (-1), 1) := by decide +kernel
theorem dX11_type_20 : decode cX11_type 20 = .ok (.ireturn, 1) := by decide +kernel
theorem dX11_writeText_0 : decode cX11_writeText 0 = .ok (.iload_n 2, 1) := by decide +kernel
theorem dX11_writeText_1 : decode cX11_writeText 1 = .ok (.ifCond .lt 12, 3) := by decide +kernel
theorem dX11_writeText_4 : decode cX11_writeText 4 = .ok (.iload_n 2, 1) := by decide +kernel
theorem dX11_writeText_5 : decode cX11_writeText 5 = .ok (.aload_n 0, 1) := by decide +kernel
theorem dX11_writeText_6 : decode cX11_writeText 6 = .ok (.iload_n 1, 1) := by decide +kernel
theorem dX11_writeText_7 : decode cX11_writeText 7 = .ok (.invokevirtual 162, 3) := by decide +kernel
theorem dX11_writeText_10 : decode cX11_writeText 10 = .ok (.if_icmp .lt 5, 3) := by decide +kernel
theorem dX11_writeText_13 : decode cX11_writeText 13 = .ok (.iconst 0, 1) := by decide +kernel
theorem dX11_writeText_14 : decode cX11_writeText 14 = .ok (.ireturn, 1) := by decide +kernel
theorem dX11_writeText_15 : decode cX11_writeText 15 = .ok (.aload_n 0, 1) := by decide +kernel
theorem dX11_writeText_16 : decode cX11_writeText 16 = .ok (.getfield 29, 3) := by decide +kernel
theorem dX11_writeText_19 : decode cX11_writeText 19 = .ok (.getfield 166, 3) := by decide +kernel
theorem dX11_writeText_22 : decode cX11_writeText 22 = .ok (.astore_n 3, 1) := by decide +kernel
theorem dX11_writeText_23 : decode cX11_writeText 23 = .ok (.aload_n 0, 1) := by decide +kernel
theorem dX11_writeText_24 : decode cX11_writeText 24 = .ok (.getfield 29, 3) := by decide +kernel
theorem dX11_writeText_27 : decode cX11_writeText 27 = .ok (.getfield 170, 3) := by decide +kernel
theorem dX11_writeText_30 : decode cX11_writeText 30 = .ok (.astore 4, 2) := by decide +kernel
theorem dX11_writeText_32 : decode cX11_writeText 32 = .ok (.iload_n 1, 1) := by decide +kernel
theorem dX11_writeText_33 : decode cX11_writeText 33 = .ok (.tableswitch 252 0 7 #[47, 77, 101, 128, 153, 178, 204, 234], 47) := by decide +kernel
theorem dX11_writeText_110 : decode cX11_writeText 110 = .ok (.aload_n 0, 1) := by decide +kernel
theorem dX11_writeText_111 : decode cX11_writeText 111 = .ok (.getfield 57, 3) := by decide +kernel
theorem dX11_writeText_114 : decode cX11_writeText 114 = .ok (.aload_n 3, 1) := by decide +kernel
theorem dX11_writeText_115 : decode cX11_writeText 115 = .ok (.aload_n 0, 1) := by decide +kernel
theorem dX11_writeText_116 : decode cX11_writeText 116 = .ok (.getfield 29, 3) := by decide +kernel
theorem dX11_writeText_119 : decode cX11_writeText 119 = .ok (.getfield 186, 3) := by decide +kernel
theorem dX11_writeText_122 : decode cX11_writeText 122 = .ok (.iload_n 2, 1) := by decide +kernel
theorem dX11_writeText_123 : decode cX11_writeText 123 = .ok (.invokestatic 178, 3) := by decide +kernel
theorem dX11_writeText_126 : decode cX11_writeText 126 = .ok (.bipush 40, 2) := by decide +kernel
theorem dX11_writeText_128 : decode cX11_writeText 128 = .ok (.invokevirtual 182, 3) := by decide +kernel
theorem dX11_writeText_131 : decode cX11_writeText 131 = .ok (.goto 169, 3) := by decide +kernel
theorem dX11_writeText_267 : decode cX11_writeText 267 = .ok (.aload_n 0, 1) := by decide +kernel
theorem dX11_writeText_268 : decode cX11_writeText 268 = .ok (.getfield 57, 3) := by decide +kernel
theorem dX11_writeText_271 : decode cX11_writeText 271 = .ok (.aload_n 0, 1) := by decide +kernel
theorem dX11_writeText_272 : decode cX11_writeText 272 = .ok (.getfield 29, 3) := by decide +kernel
theorem dX11_writeText_275 : decode cX11_writeText 275 = .ok (.iload_n 2, 1) := by decide +kernel
theorem dX11_writeText_276 : decode cX11_writeText 276 = .ok (.iconst 0, 1) := by decide +kernel
theorem dX11_writeText_277 : decode cX11_writeText 277 = .ok (.bipush 40, 2) := by decide +kernel
theorem dX11_writeText_279 : decode cX11_writeText 279 = .ok (.invokevirtual 203, 3) := by decide +kernel
theorem dX11_writeText_282 : decode cX11_writeText 282 = .ok (.goto 18, 3) := by decide +kernel
theorem dX11_writeText_285 : decode cX11_writeText 285 = .ok (.aload_n 0, 1) := by decide +kernel
theorem dX11_writeText_286 : decode cX11_writeText 286 = .ok (.getfield 57, 3) := by decide +kernel
theorem dX11_writeText_289 : decode cX11_writeText 289 = .ok (.aload_n 0, 1) := by decide +kernel
theorem dX11_writeText_290 : decode cX11_writeText 290 = .ok (.getfield 29, 3) := by decide +kernel
theorem dX11_writeText_293 : decode cX11_writeText 293 = .ok (.iload_n 2, 1) := by decide +kernel
theorem dX11_writeText_294 : decode cX11_writeText 294 = .ok (.iconst 1, 1) := by decide +kernel
theorem dX11_writeText_295 : decode cX11_writeText 295 = .ok (.bipush 40, 2) := by decide +kernel
theorem dX11_writeText_297 : decode cX11_writeText 297 = .ok (.invokevirtual 203, 3) := by decide +kernel
theorem dX11_writeText_300 : decode cX11_writeText 300 = .ok (.iconst 1, 1) := by decide +kernel
theorem dX11_writeText_301 : decode cX11_writeText 301 = .ok (.ireturn, 1) := by decide +kernel
theorem dX12_areBeside_0 : decode cX12_areBeside 0 = .ok (.iload_n 1, 1) := by decide +kernel
theorem dX12_areBeside_1 : decode cX12_areBeside 1 = .ok (.iconst 0, 1) := by decide +kernel
theorem dX12_areBeside_2 : decode cX12_areBeside 2 = .ok (.aload_n 0, 1) := by decide +kernel
theorem dX12_areBeside_3 : decode cX12_areBeside 3 = .ok (.getfield 619, 3) := by decide +kernel
theorem dX12_areBeside_6 : decode cX12_areBeside 6 = .ok (.iconst 1, 1) := by decide +kernel
theorem dX12_areBeside_7 : decode cX12_areBeside 7 = .ok (.isub, 1) := by decide +kernel
theorem dX12_areBeside_8 : decode cX12_areBeside 8 = .ok (.invokestatic 334, 3) := by decide +kernel
theorem dX12_areBeside_11 : decode cX12_areBeside 11 = .ok (.ifCond .eq 21, 3) := by decide +kernel
theorem dX12_areBeside_32 : decode cX12_areBeside 32 = .ok (.iconst 0, 1) := by decide +kernel
theorem dX12_areBeside_33 : decode cX12_areBeside 33 = .ok (.ireturn, 1) := by decide +kernel
theorem dX12_arrow_0 : decode cX12_arrow 0 = .ok (.iconst 3, 1) := by decide +kernel
theorem dX12_arrow_1 : decode cX12_arrow 1 = .ok (.istore_n 3, 1) := by decide +kernel
theorem dX12_arrow_2 : decode cX12_arrow 2 = .ok (.iload_n 3, 1) := by decide +kernel
theorem dX12_arrow_3 : decode cX12_arrow 3 = .ok (.aload_n 0, 1) := by decide +kernel
theorem dX12_arrow_4 : decode cX12_arrow 4 = .ok (.getfield 231, 3) := by decide +kernel
theorem dX12_arrow_7 : decode cX12_arrow 7 = .ok (.if_icmp .ge 31, 3) := by decide +kernel
theorem dX12_arrow_38 : decode cX12_arrow 38 = .ok (.aload_n 0, 1) := by decide +kernel
theorem dX12_arrow_39 : decode cX12_arrow 39 = .ok (.getfield 7, 3) := by decide +kernel
theorem dX12_arrow_42 : decode cX12_arrow 42 = .ok (.aload_n 0, 1) := by decide +kernel
theorem dX12_arrow_43 : decode cX12_arrow 43 = .ok (.getfield 231, 3) := by decide +kernel
theorem dX12_arrow_46 : decode cX12_arrow 46 = .ok (.iload_n 1, 1) := by decide +kernel
theorem dX12_arrow_47 : decode cX12_arrow 47 = .ok (.iastore, 1) := by decide +kernel
theorem dX12_arrow_48 : decode cX12_arrow 48 = .ok (.aload_n 0, 1) := by decide +kernel
theorem dX12_arrow_49 : decode cX12_arrow 49 = .ok (.getfield 13, 3) := by decide +kernel
theorem dX12_arrow_52 : decode cX12_arrow 52 = .ok (.aload_n 0, 1) := by decide +kernel
theorem dX12_arrow_53 : decode cX12_arrow 53 = .ok (.getfield 231, 3) := by decide +kernel
theorem dX12_arrow_56 : decode cX12_arrow 56 = .ok (.iload_n 2, 1) := by decide +kernel
theorem dX12_arrow_57 : decode cX12_arrow 57 = .ok (.iastore, 1) := by decide +kernel
theorem dX12_arrow_58 : decode cX12_arrow 58 = .ok (.aload_n 0, 1) := by decide +kernel
theorem dX12_arrow_59 : decode cX12_arrow 59 = .ok (.getfield 16, 3) := by decide +kernel
theorem dX12_arrow_62 : decode cX12_arrow 62 = .ok (.aload_n 0, 1) := by decide +kernel
theorem dX12_arrow_63 : decode cX12_arrow 63 = .ok (.getfield 231, 3) := by decide +kernel
theorem dX12_arrow_66 : decode cX12_arrow 66 = .ok (.iconst 1, 1) := by decide +kernel
theorem dX12_arrow_67 : decode cX12_arrow 67 = .ok (.aload_n 0, 1) := by decide +kernel
theorem dX12_arrow_68 : decode cX12_arrow 68 = .ok (.getfield 16, 3) := by decide +kernel
theorem dX12_arrow_71 : decode cX12_arrow 71 = .ok (.iload_n 1, 1) := by decide +kernel
theorem dX12_arrow_72 : decode cX12_arrow 72 = .ok (.iaload, 1) := by decide +kernel
theorem dX12_arrow_73 : decode cX12_arrow 73 = .ok (.aload_n 0, 1) := by decide +kernel
theorem dX12_arrow_74 : decode cX12_arrow 74 = .ok (.getfield 16, 3) := by decide +kernel
theorem dX12_arrow_77 : decode cX12_arrow 77 = .ok (.iload_n 2, 1) := by decide +kernel
theorem dX12_arrow_78 : decode cX12_arrow 78 = .ok (.iaload, 1) := by decide +kernel
theorem dX12_arrow_79 : decode cX12_arrow 79 = .ok (.invokestatic 238, 3) := by decide +kernel
theorem dX12_arrow_82 : decode cX12_arrow 82 = .ok (.iadd, 1) := by decide +kernel
theorem dX12_arrow_83 : decode cX12_arrow 83 = .ok (.iastore, 1) := by decide +kernel
theorem dX12_arrow_84 : decode cX12_arrow 84 = .ok (.aload_n 0, 1) := by decide +kernel
theorem dX12_arrow_85 : decode cX12_arrow 85 = .ok (.getfield 19, 3) := by decide +kernel
theorem dX12_arrow_88 : decode cX12_arrow 88 = .ok (.aload_n 0, 1) := by decide +kernel
theorem dX12_arrow_89 : decode cX12_arrow 89 = .ok (.getfield 231, 3) := by decide +kernel
theorem dX12_arrow_92 : decode cX12_arrow 92 = .ok (.iconst 1, 1) := by decide +kernel
theorem dX12_arrow_93 : decode cX12_arrow 93 = .ok (.aload_n 0, 1) := by decide +kernel
theorem dX12_arrow_94 : decode cX12_arrow 94 = .ok (.getfield 19, 3) := by decide +kernel
theorem dX12_arrow_97 : decode cX12_arrow 97 = .ok (.iload_n 1, 1) := by decide +kernel
theorem dX12_arrow_98 : decode cX12_arrow 98 = .ok (.iaload, 1) := by decide +kernel
theorem dX12_arrow_99 : decode cX12_arrow 99 = .ok (.iadd, 1) := by decide +kernel
theorem dX12_arrow_100 : decode cX12_arrow 100 = .ok (.aload_n 0, 1) := by decide +kernel
theorem dX12_arrow_101 : decode cX12_arrow 101 = .ok (.getfield 19, 3) := by decide +kernel
theorem dX12_arrow_104 : decode cX12_arrow 104 = .ok (.iload_n 2, 1) := by decide +kernel
theorem dX12_arrow_105 : decode cX12_arrow 105 = .ok (.iaload, 1) := by decide +kernel
theorem dX12_arrow_106 : decode cX12_arrow 106 = .ok (.iadd, 1) := by decide +kernel
theorem dX12_arrow_107 : decode cX12_arrow 107 = .ok (.iastore, 1) := by decide +kernel
theorem dX12_arrow_108 : decode cX12_arrow 108 = .ok (.aload_n 0, 1) := by decide +kernel
theorem dX12_arrow_109 : decode cX12_arrow 109 = .ok (.getfield 22, 3) := by decide +kernel
theorem dX12_arrow_112 : decode cX12_arrow 112 = .ok (.aload_n 0, 1) := by decide +kernel
theorem dX12_arrow_113 : decode cX12_arrow 113 = .ok (.getfield 231, 3) := by decide +kernel
theorem dX12_arrow_116 : decode cX12_arrow 116 = .ok (.aload_n 0, 1) := by decide +kernel
theorem dX12_arrow_117 : decode cX12_arrow 117 = .ok (.getfield 22, 3) := by decide +kernel
theorem dX12_arrow_120 : decode cX12_arrow 120 = .ok (.iload_n 1, 1) := by decide +kernel
theorem dX12_arrow_121 : decode cX12_arrow 121 = .ok (.baload, 1) := by decide +kernel
theorem dX12_arrow_122 : decode cX12_arrow 122 = .ok (.ifCond .ne 12, 3) := by decide +kernel
theorem dX12_arrow_134 : decode cX12_arrow 134 = .ok (.iconst 1, 1) := by decide +kernel
theorem dX12_arrow_135 : decode cX12_arrow 135 = .ok (.goto 4, 3) := by decide +kernel
theorem dX12_arrow_139 : decode cX12_arrow 139 = .ok (.bastore, 1) := by decide +kernel
theorem dX12_arrow_140 : decode cX12_arrow 140 = .ok (.aload_n 0, 1) := by decide +kernel
theorem dX12_arrow_141 : decode cX12_arrow 141 = .ok (.aload_n 0, 1) := by decide +kernel
theorem dX12_arrow_142 : decode cX12_arrow 142 = .ok (.getfield 231, 3) := by decide +kernel
theorem dX12_arrow_145 : decode cX12_arrow 145 = .ok (.iconst 1, 1) := by decide +kernel
theorem dX12_arrow_146 : decode cX12_arrow 146 = .ok (.iadd, 1) := by decide +kernel
theorem dX12_arrow_147 : decode cX12_arrow 147 = .ok (.putfield 231, 3) := by decide +kernel
theorem dX12_arrow_150 : decode cX12_arrow 150 = .ok (.aload_n 0, 1) := by decide +kernel
theorem dX12_arrow_151 : decode cX12_arrow 151 = .ok (.getfield 231, 3) := by decide +kernel
theorem dX12_arrow_154 : decode cX12_arrow 154 = .ok (.iconst 1, 1) := by decide +kernel
theorem dX12_arrow_155 : decode cX12_arrow 155 = .ok (.isub, 1) := by decide +kernel
theorem dX12_arrow_156 : decode cX12_arrow 156 = .ok (.ireturn, 1) := by decide +kernel
theorem dX12_begins_0 : decode cX12_begins 0 = .ok (.aload_n 0, 1) := by decide +kernel
theorem dX12_begins_1 : decode cX12_begins 1 = .ok (.getfield 535, 3) := by decide +kernel
theorem dX12_begins_4 : decode cX12_begins 4 = .ok (.istore_n 1, 1) := by decide +kernel
theorem dX12_begins_5 : decode cX12_begins 5 = .ok (.bipush 60, 2) := by decide +kernel
theorem dX12_begins_7 : decode cX12_begins 7 = .ok (.aload_n 0, 1) := by decide +kernel
theorem dX12_begins_8 : decode cX12_begins 8 = .ok (.getfield 392, 3) := by decide +kernel
theorem dX12_begins_11 : decode cX12_begins 11 = .ok (.imul, 1) := by decide +kernel
theorem dX12_begins_12 : decode cX12_begins 12 = .ok (.iload_n 1, 1) := by decide +kernel
theorem dX12_begins_13 : decode cX12_begins 13 = .ok (.iadd, 1) := by decide +kernel
theorem dX12_begins_14 : decode cX12_begins 14 = .ok (.istore_n 2, 1) := by decide +kernel
theorem dX12_begins_15 : decode cX12_begins 15 = .ok (.aload_n 0, 1) := by decide +kernel
theorem dX12_begins_16 : decode cX12_begins 16 = .ok (.getfield 538, 3) := by decide +kernel
theorem dX12_begins_19 : decode cX12_begins 19 = .ok (.istore_n 3, 1) := by decide +kernel
theorem dX12_begins_20 : decode cX12_begins 20 = .ok (.aload_n 0, 1) := by decide +kernel
theorem dX12_begins_21 : decode cX12_begins 21 = .ok (.getfield 72, 3) := by decide +kernel
theorem dX12_begins_24 : decode cX12_begins 24 = .ok (.iload_n 2, 1) := by decide +kernel
theorem dX12_begins_25 : decode cX12_begins 25 = .ok (.iaload, 1) := by decide +kernel
theorem dX12_begins_26 : decode cX12_begins 26 = .ok (.tableswitch 234 0 12 #[66, 66, 92, 140, 183, 193, 210, 220, 234, 234, 234, 234, 223], 66) := by decide +kernel
theorem dX12_begins_92 : decode cX12_begins 92 = .ok (.aload_n 0, 1) := by decide +kernel
theorem dX12_begins_93 : decode cX12_begins 93 = .ok (.aload_n 0, 1) := by decide +kernel
theorem dX12_begins_94 : decode cX12_begins 94 = .ok (.getfield 72, 3) := by decide +kernel
theorem dX12_begins_97 : decode cX12_begins 97 = .ok (.iload_n 2, 1) := by decide +kernel
theorem dX12_begins_98 : decode cX12_begins 98 = .ok (.iaload, 1) := by decide +kernel
theorem dX12_begins_99 : decode cX12_begins 99 = .ok (.ifCond .ne 7, 3) := by decide +kernel
theorem dX12_begins_102 : decode cX12_begins 102 = .ok (.iconst 1, 1) := by decide +kernel
theorem dX12_begins_103 : decode cX12_begins 103 = .ok (.goto 4, 3) := by decide +kernel
theorem dX12_begins_107 : decode cX12_begins 107 = .ok (.aload_n 0, 1) := by decide +kernel
theorem dX12_begins_108 : decode cX12_begins 108 = .ok (.getfield 75, 3) := by decide +kernel
theorem dX12_begins_111 : decode cX12_begins 111 = .ok (.iload_n 2, 1) := by decide +kernel
theorem dX12_begins_112 : decode cX12_begins 112 = .ok (.iaload, 1) := by decide +kernel
theorem dX12_begins_113 : decode cX12_begins 113 = .ok (.iconst (-1), 1) := by decide +kernel
theorem dX12_begins_114 : decode cX12_begins 114 = .ok (.invokevirtual 565, 3) := by decide +kernel
theorem dX12_begins_117 : decode cX12_begins 117 = .ok (.return_, 1) := by decide +kernel
theorem dX12_cast_0 : decode cX12_cast 0 = .ok (.iload_n 1, 1) := by decide +kernel
theorem dX12_cast_1 : decode cX12_cast 1 = .ok (.iconst 0, 1) := by decide +kernel
theorem dX12_cast_2 : decode cX12_cast 2 = .ok (.aload_n 0, 1) := by decide +kernel
theorem dX12_cast_3 : decode cX12_cast 3 = .ok (.getfield 457, 3) := by decide +kernel
theorem dX12_cast_6 : decode cX12_cast 6 = .ok (.iconst 1, 1) := by decide +kernel
theorem dX12_cast_7 : decode cX12_cast 7 = .ok (.isub, 1) := by decide +kernel
theorem dX12_cast_8 : decode cX12_cast 8 = .ok (.invokestatic 334, 3) := by decide +kernel
theorem dX12_cast_11 : decode cX12_cast 11 = .ok (.ifCond .ne 5, 3) := by decide +kernel
theorem dX12_cast_14 : decode cX12_cast 14 = .ok (.iconst (-1), 1) := by decide +kernel
theorem dX12_cast_15 : decode cX12_cast 15 = .ok (.ireturn, 1) := by decide +kernel
theorem dX12_checks_0 : decode cX12_checks 0 = .ok (.aload_n 0, 1) := by decide +kernel
theorem dX12_checks_1 : decode cX12_checks 1 = .ok (.iconst 0, 1) := by decide +kernel
theorem dX12_checks_2 : decode cX12_checks 2 = .ok (.invokevirtual 472, 3) := by decide +kernel
theorem dX12_checks_5 : decode cX12_checks 5 = .ok (.aload_n 0, 1) := by decide +kernel
theorem dX12_checks_6 : decode cX12_checks 6 = .ok (.invokevirtual 475, 3) := by decide +kernel
theorem dX12_checks_9 : decode cX12_checks 9 = .ok (.aload_n 0, 1) := by decide +kernel
theorem dX12_checks_10 : decode cX12_checks 10 = .ok (.iconst 0, 1) := by decide +kernel
theorem dX12_checks_11 : decode cX12_checks 11 = .ok (.putfield 457, 3) := by decide +kernel
theorem dX12_checks_14 : decode cX12_checks 14 = .ok (.iconst 0, 1) := by decide +kernel
theorem dX12_checks_15 : decode cX12_checks 15 = .ok (.istore_n 1, 1) := by decide +kernel
theorem dX12_checks_16 : decode cX12_checks 16 = .ok (.iload_n 1, 1) := by decide +kernel
theorem dX12_checks_17 : decode cX12_checks 17 = .ok (.bipush 60, 2) := by decide +kernel
theorem dX12_checks_19 : decode cX12_checks 19 = .ok (.if_icmp .ge 23, 3) := by decide +kernel
theorem dX12_checks_22 : decode cX12_checks 22 = .ok (.aload_n 0, 1) := by decide +kernel
theorem dX12_checks_23 : decode cX12_checks 23 = .ok (.getfield 130, 3) := by decide +kernel
theorem dX12_checks_26 : decode cX12_checks 26 = .ok (.iload_n 1, 1) := by decide +kernel
theorem dX12_checks_27 : decode cX12_checks 27 = .ok (.iconst (-1), 1) := by decide +kernel
theorem dX12_checks_28 : decode cX12_checks 28 = .ok (.iastore, 1) := by decide +kernel
theorem dX12_checks_29 : decode cX12_checks 29 = .ok (.aload_n 0, 1) := by decide +kernel
theorem dX12_checks_30 : decode cX12_checks 30 = .ok (.getfield 148, 3) := by decide +kernel
theorem dX12_checks_33 : decode cX12_checks 33 = .ok (.iload_n 1, 1) := by decide +kernel
theorem dX12_checks_34 : decode cX12_checks 34 = .ok (.iconst 0, 1) := by decide +kernel
theorem dX12_checks_35 : decode cX12_checks 35 = .ok (.iastore, 1) := by decide +kernel
theorem dX12_checks_36 : decode cX12_checks 36 = .ok (.iinc 1 1, 3) := by decide +kernel
theorem dX12_checks_39 : decode cX12_checks 39 = .ok (.goto (-23), 3) := by decide +kernel
theorem dX12_checks_42 : decode cX12_checks 42 = .ok (.iconst 0, 1) := by decide +kernel
theorem dX12_checks_43 : decode cX12_checks 43 = .ok (.istore_n 1, 1) := by decide +kernel
theorem dX12_checks_44 : decode cX12_checks 44 = .ok (.iload_n 1, 1) := by decide +kernel
theorem dX12_checks_45 : decode cX12_checks 45 = .ok (.aload_n 0, 1) := by decide +kernel
theorem dX12_checks_46 : decode cX12_checks 46 = .ok (.getfield 96, 3) := by decide +kernel
theorem dX12_checks_49 : decode cX12_checks 49 = .ok (.aload_n 0, 1) := by decide +kernel
theorem dX12_checks_50 : decode cX12_checks 50 = .ok (.getfield 392, 3) := by decide +kernel
theorem dX12_checks_53 : decode cX12_checks 53 = .ok (.iaload, 1) := by decide +kernel
theorem dX12_checks_54 : decode cX12_checks 54 = .ok (.if_icmp .ge 45, 3) := by decide +kernel
theorem dX12_checks_57 : decode cX12_checks 57 = .ok (.aload_n 0, 1) := by decide +kernel
theorem dX12_checks_58 : decode cX12_checks 58 = .ok (.aload_n 0, 1) := by decide +kernel
theorem dX12_checks_59 : decode cX12_checks 59 = .ok (.getfield 90, 3) := by decide +kernel
theorem dX12_checks_62 : decode cX12_checks 62 = .ok (.bipush 60, 2) := by decide +kernel
theorem dX12_checks_64 : decode cX12_checks 64 = .ok (.aload_n 0, 1) := by decide +kernel
theorem dX12_checks_65 : decode cX12_checks 65 = .ok (.getfield 392, 3) := by decide +kernel
theorem dX12_checks_68 : decode cX12_checks 68 = .ok (.imul, 1) := by decide +kernel
theorem dX12_checks_69 : decode cX12_checks 69 = .ok (.iload_n 1, 1) := by decide +kernel
theorem dX12_checks_70 : decode cX12_checks 70 = .ok (.iadd, 1) := by decide +kernel
theorem dX12_checks_71 : decode cX12_checks 71 = .ok (.iaload, 1) := by decide +kernel
theorem dX12_checks_72 : decode cX12_checks 72 = .ok (.invokevirtual 478, 3) := by decide +kernel
theorem dX12_checks_75 : decode cX12_checks 75 = .ok (.ifCond .ne 18, 3) := by decide +kernel
theorem dX12_checks_93 : decode cX12_checks 93 = .ok (.iinc 1 1, 3) := by decide +kernel
theorem dX12_checks_96 : decode cX12_checks 96 = .ok (.goto (-52), 3) := by decide +kernel
theorem dX12_checks_99 : decode cX12_checks 99 = .ok (.iconst 0, 1) := by decide +kernel
theorem dX12_checks_100 : decode cX12_checks 100 = .ok (.istore_n 1, 1) := by decide +kernel
theorem dX12_checks_101 : decode cX12_checks 101 = .ok (.iload_n 1, 1) := by decide +kernel
theorem dX12_checks_102 : decode cX12_checks 102 = .ok (.aload_n 0, 1) := by decide +kernel
theorem dX12_checks_103 : decode cX12_checks 103 = .ok (.getfield 457, 3) := by decide +kernel
theorem dX12_checks_106 : decode cX12_checks 106 = .ok (.if_icmp .ge 33, 3) := by decide +kernel
theorem dX12_checks_139 : decode cX12_checks 139 = .ok (.aload_n 0, 1) := by decide +kernel
theorem dX12_checks_140 : decode cX12_checks 140 = .ok (.aload_n 0, 1) := by decide +kernel
theorem dX12_checks_141 : decode cX12_checks 141 = .ok (.getfield 275, 3) := by decide +kernel
theorem dX12_checks_144 : decode cX12_checks 144 = .ok (.putfield 485, 3) := by decide +kernel
theorem dX12_checks_147 : decode cX12_checks 147 = .ok (.aload_n 0, 1) := by decide +kernel
theorem dX12_checks_148 : decode cX12_checks 148 = .ok (.aload_n 0, 1) := by decide +kernel
theorem dX12_checks_149 : decode cX12_checks 149 = .ok (.getfield 231, 3) := by decide +kernel
theorem dX12_checks_152 : decode cX12_checks 152 = .ok (.putfield 488, 3) := by decide +kernel
theorem dX12_checks_155 : decode cX12_checks 155 = .ok (.aload_n 0, 1) := by decide +kernel
theorem dX12_checks_156 : decode cX12_checks 156 = .ok (.invokevirtual 491, 3) := by decide +kernel
theorem dX12_checks_159 : decode cX12_checks 159 = .ok (.iconst (-1), 1) := by decide +kernel
theorem dX12_checks_160 : decode cX12_checks 160 = .ok (.ireturn, 1) := by decide +kernel
theorem dX12_checksNode_0 : decode cX12_checksNode 0 = .ok (.bipush 60, 2) := by decide +kernel
theorem dX12_checksNode_2 : decode cX12_checksNode 2 = .ok (.aload_n 0, 1) := by decide +kernel
theorem dX12_checksNode_3 : decode cX12_checksNode 3 = .ok (.getfield 392, 3) := by decide +kernel
theorem dX12_checksNode_6 : decode cX12_checksNode 6 = .ok (.imul, 1) := by decide +kernel
theorem dX12_checksNode_7 : decode cX12_checksNode 7 = .ok (.iload_n 1, 1) := by decide +kernel
theorem dX12_checksNode_8 : decode cX12_checksNode 8 = .ok (.iadd, 1) := by decide +kernel
theorem dX12_checksNode_9 : decode cX12_checksNode 9 = .ok (.istore_n 2, 1) := by decide +kernel
theorem dX12_checksNode_10 : decode cX12_checksNode 10 = .ok (.aload_n 0, 1) := by decide +kernel
theorem dX12_checksNode_11 : decode cX12_checksNode 11 = .ok (.getfield 81, 3) := by decide +kernel
theorem dX12_checksNode_14 : decode cX12_checksNode 14 = .ok (.iload_n 2, 1) := by decide +kernel
theorem dX12_checksNode_15 : decode cX12_checksNode 15 = .ok (.iaload, 1) := by decide +kernel
theorem dX12_checksNode_16 : decode cX12_checksNode 16 = .ok (.istore_n 3, 1) := by decide +kernel
theorem dX12_checksNode_17 : decode cX12_checksNode 17 = .ok (.aload_n 0, 1) := by decide +kernel
theorem dX12_checksNode_18 : decode cX12_checksNode 18 = .ok (.getfield 84, 3) := by decide +kernel
theorem dX12_checksNode_21 : decode cX12_checksNode 21 = .ok (.iload_n 2, 1) := by decide +kernel
theorem dX12_checksNode_22 : decode cX12_checksNode 22 = .ok (.iaload, 1) := by decide +kernel
theorem dX12_checksNode_23 : decode cX12_checksNode 23 = .ok (.istore 4, 2) := by decide +kernel
theorem dX12_checksNode_25 : decode cX12_checksNode 25 = .ok (.aload_n 0, 1) := by decide +kernel
theorem dX12_checksNode_26 : decode cX12_checksNode 26 = .ok (.getfield 72, 3) := by decide +kernel
theorem dX12_checksNode_29 : decode cX12_checksNode 29 = .ok (.iload_n 2, 1) := by decide +kernel
theorem dX12_checksNode_30 : decode cX12_checksNode 30 = .ok (.iaload, 1) := by decide +kernel
theorem dX12_checksNode_31 : decode cX12_checksNode 31 = .ok (.istore 5, 2) := by decide +kernel
theorem dX12_checksNode_33 : decode cX12_checksNode 33 = .ok (.iload 5, 2) := by decide +kernel
theorem dX12_checksNode_35 : decode cX12_checksNode 35 = .ok (.tableswitch 337 0 12 #[65, 74, 83, 114, 162, 192, 221, 192, 337, 337, 337, 337, 328], 65) := by decide +kernel
theorem dX12_checksNode_100 : decode cX12_checksNode 100 = .ok (.aload_n 0, 1) := by decide +kernel
theorem dX12_checksNode_101 : decode cX12_checksNode 101 = .ok (.getfield 127, 3) := by decide +kernel
theorem dX12_checksNode_104 : decode cX12_checksNode 104 = .ok (.iload_n 1, 1) := by decide +kernel
theorem dX12_checksNode_105 : decode cX12_checksNode 105 = .ok (.iconst 1, 1) := by decide +kernel
theorem dX12_checksNode_106 : decode cX12_checksNode 106 = .ok (.iastore, 1) := by decide +kernel
theorem dX12_checksNode_107 : decode cX12_checksNode 107 = .ok (.iconst 1, 1) := by decide +kernel
theorem dX12_checksNode_108 : decode cX12_checksNode 108 = .ok (.ireturn, 1) := by decide +kernel
theorem dX12_cleans_0 : decode cX12_cleans 0 = .ok (.aload_n 0, 1) := by decide +kernel
theorem dX12_cleans_1 : decode cX12_cleans 1 = .ok (.aload_n 0, 1) := by decide +kernel
theorem dX12_cleans_2 : decode cX12_cleans 2 = .ok (.getfield 485, 3) := by decide +kernel
theorem dX12_cleans_5 : decode cX12_cleans 5 = .ok (.invokevirtual 472, 3) := by decide +kernel
theorem dX12_cleans_8 : decode cX12_cleans 8 = .ok (.aload_n 0, 1) := by decide +kernel
theorem dX12_cleans_9 : decode cX12_cleans 9 = .ok (.aload_n 0, 1) := by decide +kernel
theorem dX12_cleans_10 : decode cX12_cleans 10 = .ok (.getfield 488, 3) := by decide +kernel
theorem dX12_cleans_13 : decode cX12_cleans 13 = .ok (.putfield 231, 3) := by decide +kernel
theorem dX12_cleans_16 : decode cX12_cleans 16 = .ok (.return_, 1) := by decide +kernel
theorem dX12_clear_0 : decode cX12_clear 0 = .ok (.iload_n 1, 1) := by decide +kernel
theorem dX12_clear_1 : decode cX12_clear 1 = .ok (.iconst 0, 1) := by decide +kernel
theorem dX12_clear_2 : decode cX12_clear 2 = .ok (.iconst 1, 1) := by decide +kernel
theorem dX12_clear_3 : decode cX12_clear 3 = .ok (.invokestatic 334, 3) := by decide +kernel
theorem dX12_clear_6 : decode cX12_clear 6 = .ok (.ifCond .ne 5, 3) := by decide +kernel
theorem dX12_clear_9 : decode cX12_clear 9 = .ok (.iconst (-1), 1) := by decide +kernel
theorem dX12_clear_10 : decode cX12_clear 10 = .ok (.ireturn, 1) := by decide +kernel
theorem dX12_clear_11 : decode cX12_clear 11 = .ok (.aload_n 0, 1) := by decide +kernel
theorem dX12_clear_12 : decode cX12_clear 12 = .ok (.getfield 648, 3) := by decide +kernel
theorem dX12_clear_15 : decode cX12_clear 15 = .ok (.iload_n 1, 1) := by decide +kernel
theorem dX12_clear_16 : decode cX12_clear 16 = .ok (.iconst 1, 1) := by decide +kernel
theorem dX12_clear_17 : decode cX12_clear 17 = .ok (.if_icmp .ne 10, 3) := by decide +kernel
theorem dX12_clear_20 : decode cX12_clear 20 = .ok (.aload_n 0, 1) := by decide +kernel
theorem dX12_clear_21 : decode cX12_clear 21 = .ok (.getfield 619, 3) := by decide +kernel
theorem dX12_clear_24 : decode cX12_clear 24 = .ok (.goto 4, 3) := by decide +kernel
theorem dX12_clear_27 : decode cX12_clear 27 = .ok (.iconst 0, 1) := by decide +kernel
theorem dX12_clear_28 : decode cX12_clear 28 = .ok (.iadd, 1) := by decide +kernel
theorem dX12_clear_29 : decode cX12_clear 29 = .ok (.istore_n 2, 1) := by decide +kernel
theorem dX12_clear_30 : decode cX12_clear 30 = .ok (.aload_n 0, 1) := by decide +kernel
theorem dX12_clear_31 : decode cX12_clear 31 = .ok (.iconst 0, 1) := by decide +kernel
theorem dX12_clear_32 : decode cX12_clear 32 = .ok (.putfield 648, 3) := by decide +kernel
theorem dX12_clear_35 : decode cX12_clear 35 = .ok (.aload_n 0, 1) := by decide +kernel
theorem dX12_clear_36 : decode cX12_clear 36 = .ok (.iload_n 1, 1) := by decide +kernel
theorem dX12_clear_37 : decode cX12_clear 37 = .ok (.iconst 1, 1) := by decide +kernel
theorem dX12_clear_38 : decode cX12_clear 38 = .ok (.if_icmp .ne 7, 3) := by decide +kernel
theorem dX12_clear_41 : decode cX12_clear 41 = .ok (.iconst 0, 1) := by decide +kernel
theorem dX12_clear_42 : decode cX12_clear 42 = .ok (.goto 7, 3) := by decide +kernel
theorem dX12_clear_45 : decode cX12_clear 45 = .ok (.aload_n 0, 1) := by decide +kernel
theorem dX12_clear_46 : decode cX12_clear 46 = .ok (.getfield 619, 3) := by decide +kernel
theorem dX12_clear_49 : decode cX12_clear 49 = .ok (.putfield 619, 3) := by decide +kernel
theorem dX12_clear_52 : decode cX12_clear 52 = .ok (.iload_n 2, 1) := by decide +kernel
theorem dX12_clear_53 : decode cX12_clear 53 = .ok (.ireturn, 1) := by decide +kernel
theorem dX12_coerce_0 : decode cX12_coerce 0 = .ok (.aload_n 0, 1) := by decide +kernel
theorem dX12_coerce_1 : decode cX12_coerce 1 = .ok (.iload_n 1, 1) := by decide +kernel
theorem dX12_coerce_2 : decode cX12_coerce 2 = .ok (.iload_n 2, 1) := by decide +kernel
theorem dX12_coerce_3 : decode cX12_coerce 3 = .ok (.invokevirtual 622, 3) := by decide +kernel
theorem dX12_coerce_6 : decode cX12_coerce 6 = .ok (.ifCond .eq 13, 3) := by decide +kernel
theorem dX12_coerce_19 : decode cX12_coerce 19 = .ok (.iconst (-1), 1) := by decide +kernel
theorem dX12_coerce_20 : decode cX12_coerce 20 = .ok (.ireturn, 1) := by decide +kernel
theorem dX12_coercion_0 : decode cX12_coercion 0 = .ok (.aload_n 0, 1) := by decide +kernel
theorem dX12_coercion_1 : decode cX12_coercion 1 = .ok (.iload_n 1, 1) := by decide +kernel
theorem dX12_coercion_2 : decode cX12_coercion 2 = .ok (.invokevirtual 654, 3) := by decide +kernel
theorem dX12_coercion_5 : decode cX12_coercion 5 = .ok (.ifCond .eq 13, 3) := by decide +kernel
theorem dX12_coercion_18 : decode cX12_coercion 18 = .ok (.iconst (-1), 1) := by decide +kernel
theorem dX12_coercion_19 : decode cX12_coercion 19 = .ok (.ireturn, 1) := by decide +kernel
theorem dX12_comes_0 : decode cX12_comes 0 = .ok (.aload_n 0, 1) := by decide +kernel
theorem dX12_comes_1 : decode cX12_comes 1 = .ok (.getfield 220, 3) := by decide +kernel
theorem dX12_comes_4 : decode cX12_comes 4 = .ok (.aload_n 0, 1) := by decide +kernel
theorem dX12_comes_5 : decode cX12_comes 5 = .ok (.getfield 696, 3) := by decide +kernel
theorem dX12_comes_8 : decode cX12_comes 8 = .ok (.iload_n 1, 1) := by decide +kernel
theorem dX12_comes_9 : decode cX12_comes 9 = .ok (.iastore, 1) := by decide +kernel
theorem dX12_comes_10 : decode cX12_comes 10 = .ok (.aload_n 0, 1) := by decide +kernel
theorem dX12_comes_11 : decode cX12_comes 11 = .ok (.aload_n 0, 1) := by decide +kernel
theorem dX12_comes_12 : decode cX12_comes 12 = .ok (.getfield 696, 3) := by decide +kernel
theorem dX12_comes_15 : decode cX12_comes 15 = .ok (.iconst 1, 1) := by decide +kernel
theorem dX12_comes_16 : decode cX12_comes 16 = .ok (.iadd, 1) := by decide +kernel
theorem dX12_comes_17 : decode cX12_comes 17 = .ok (.putfield 696, 3) := by decide +kernel
theorem dX12_comes_20 : decode cX12_comes 20 = .ok (.return_, 1) := by decide +kernel
theorem dX12_count_0 : decode cX12_count 0 = .ok (.iload_n 1, 1) := by decide +kernel
theorem dX12_count_1 : decode cX12_count 1 = .ok (.tableswitch 106 0 8 #[51, 61, 71, 76, 81, 86, 91, 96, 101], 51) := by decide +kernel
theorem dX12_count_52 : decode cX12_count 52 = .ok (.aload_n 0, 1) := by decide +kernel
theorem dX12_count_53 : decode cX12_count 53 = .ok (.getfield 96, 3) := by decide +kernel
theorem dX12_count_56 : decode cX12_count 56 = .ok (.aload_n 0, 1) := by decide +kernel
theorem dX12_count_57 : decode cX12_count 57 = .ok (.getfield 392, 3) := by decide +kernel
theorem dX12_count_60 : decode cX12_count 60 = .ok (.iaload, 1) := by decide +kernel
theorem dX12_count_61 : decode cX12_count 61 = .ok (.ireturn, 1) := by decide +kernel
theorem dX12_count_62 : decode cX12_count 62 = .ok (.aload_n 0, 1) := by decide +kernel
theorem dX12_count_63 : decode cX12_count 63 = .ok (.getfield 99, 3) := by decide +kernel
theorem dX12_count_66 : decode cX12_count 66 = .ok (.aload_n 0, 1) := by decide +kernel
theorem dX12_count_67 : decode cX12_count 67 = .ok (.getfield 392, 3) := by decide +kernel
theorem dX12_count_70 : decode cX12_count 70 = .ok (.iaload, 1) := by decide +kernel
theorem dX12_count_71 : decode cX12_count 71 = .ok (.ireturn, 1) := by decide +kernel
theorem dX12_count_72 : decode cX12_count 72 = .ok (.aload_n 0, 1) := by decide +kernel
theorem dX12_count_73 : decode cX12_count 73 = .ok (.getfield 457, 3) := by decide +kernel
theorem dX12_count_76 : decode cX12_count 76 = .ok (.ireturn, 1) := by decide +kernel
theorem dX12_count_77 : decode cX12_count 77 = .ok (.aload_n 0, 1) := by decide +kernel
theorem dX12_count_78 : decode cX12_count 78 = .ok (.getfield 619, 3) := by decide +kernel
theorem dX12_count_81 : decode cX12_count 81 = .ok (.ireturn, 1) := by decide +kernel
theorem dX12_count_82 : decode cX12_count 82 = .ok (.aload_n 0, 1) := by decide +kernel
theorem dX12_count_83 : decode cX12_count 83 = .ok (.getfield 648, 3) := by decide +kernel
theorem dX12_count_86 : decode cX12_count 86 = .ok (.ireturn, 1) := by decide +kernel
theorem dX12_count_87 : decode cX12_count 87 = .ok (.aload_n 0, 1) := by decide +kernel
theorem dX12_count_88 : decode cX12_count 88 = .ok (.getfield 313, 3) := by decide +kernel
theorem dX12_count_91 : decode cX12_count 91 = .ok (.ireturn, 1) := by decide +kernel
theorem dX12_count_92 : decode cX12_count 92 = .ok (.aload_n 0, 1) := by decide +kernel
theorem dX12_count_93 : decode cX12_count 93 = .ok (.getfield 443, 3) := by decide +kernel
theorem dX12_count_96 : decode cX12_count 96 = .ok (.ireturn, 1) := by decide +kernel
theorem dX12_count_97 : decode cX12_count 97 = .ok (.aload_n 0, 1) := by decide +kernel
theorem dX12_count_98 : decode cX12_count 98 = .ok (.invokevirtual 663, 3) := by decide +kernel
theorem dX12_count_101 : decode cX12_count 101 = .ok (.ireturn, 1) := by decide +kernel
theorem dX12_count_102 : decode cX12_count 102 = .ok (.aload_n 0, 1) := by decide +kernel
theorem dX12_count_103 : decode cX12_count 103 = .ok (.invokevirtual 666, 3) := by decide +kernel
theorem dX12_count_106 : decode cX12_count 106 = .ok (.ireturn, 1) := by decide +kernel
theorem dX12_count_107 : decode cX12_count 107 = .ok (.iconst (-1), 1) := by decide +kernel
theorem dX12_count_108 : decode cX12_count 108 = .ok (.ireturn, 1) := by decide +kernel
theorem dX12_cutsTo_0 : decode cX12_cutsTo 0 = .ok (.aload_n 0, 1) := by decide +kernel
theorem dX12_cutsTo_1 : decode cX12_cutsTo 1 = .ok (.getfield 275, 3) := by decide +kernel
theorem dX12_cutsTo_4 : decode cX12_cutsTo 4 = .ok (.iload_n 1, 1) := by decide +kernel
theorem dX12_cutsTo_5 : decode cX12_cutsTo 5 = .ok (.if_icmp .le 60, 3) := by decide +kernel
theorem dX12_cutsTo_65 : decode cX12_cutsTo 65 = .ok (.return_, 1) := by decide +kernel
theorem dX12_feed_0 : decode cX12_feed 0 = .ok (.aload_n 0, 1) := by decide +kernel
theorem dX12_feed_1 : decode cX12_feed 1 = .ok (.getfield 313, 3) := by decide +kernel
theorem dX12_feed_4 : decode cX12_feed 4 = .ok (.bipush 20, 2) := by decide +kernel
theorem dX12_feed_6 : decode cX12_feed 6 = .ok (.iadd, 1) := by decide +kernel
theorem dX12_feed_7 : decode cX12_feed 7 = .ok (.sipush 300, 3) := by decide +kernel
theorem dX12_feed_10 : decode cX12_feed 10 = .ok (.if_icmp .le 5, 3) := by decide +kernel
theorem dX12_feed_15 : decode cX12_feed 15 = .ok (.aload_n 0, 1) := by decide +kernel
theorem dX12_feed_16 : decode cX12_feed 16 = .ok (.iload_n 1, 1) := by decide +kernel
theorem dX12_feed_17 : decode cX12_feed 17 = .ok (.invokevirtual 316, 3) := by decide +kernel
theorem dX12_feed_20 : decode cX12_feed 20 = .ok (.aload_n 0, 1) := by decide +kernel
theorem dX12_feed_21 : decode cX12_feed 21 = .ok (.iload_n 2, 1) := by decide +kernel
theorem dX12_feed_22 : decode cX12_feed 22 = .ok (.invokevirtual 316, 3) := by decide +kernel
theorem dX12_feed_25 : decode cX12_feed 25 = .ok (.aload_n 0, 1) := by decide +kernel
theorem dX12_feed_26 : decode cX12_feed 26 = .ok (.iload_n 3, 1) := by decide +kernel
theorem dX12_feed_27 : decode cX12_feed 27 = .ok (.invokevirtual 316, 3) := by decide +kernel
theorem dX12_feed_30 : decode cX12_feed 30 = .ok (.aload_n 0, 1) := by decide +kernel
theorem dX12_feed_31 : decode cX12_feed 31 = .ok (.iload 4, 2) := by decide +kernel
theorem dX12_feed_33 : decode cX12_feed 33 = .ok (.invokevirtual 316, 3) := by decide +kernel
theorem dX12_feed_36 : decode cX12_feed 36 = .ok (.aload_n 0, 1) := by decide +kernel
theorem dX12_feed_37 : decode cX12_feed 37 = .ok (.iload 5, 2) := by decide +kernel
theorem dX12_feed_39 : decode cX12_feed 39 = .ok (.invokevirtual 316, 3) := by decide +kernel
theorem dX12_feed_42 : decode cX12_feed 42 = .ok (.aload_n 0, 1) := by decide +kernel
theorem dX12_feed_43 : decode cX12_feed 43 = .ok (.getfield 313, 3) := by decide +kernel
theorem dX12_feed_46 : decode cX12_feed 46 = .ok (.ireturn, 1) := by decide +kernel
theorem dX12_gives_0 : decode cX12_gives 0 = .ok (.aload_n 0, 1) := by decide +kernel
theorem dX12_gives_1 : decode cX12_gives 1 = .ok (.iconst 0, 1) := by decide +kernel
theorem dX12_gives_2 : decode cX12_gives 2 = .ok (.putfield 531, 3) := by decide +kernel
theorem dX12_gives_5 : decode cX12_gives 5 = .ok (.aload_n 0, 1) := by decide +kernel
theorem dX12_gives_6 : decode cX12_gives 6 = .ok (.iload_n 1, 1) := by decide +kernel
theorem dX12_gives_7 : decode cX12_gives 7 = .ok (.putfield 541, 3) := by decide +kernel
theorem dX12_gives_10 : decode cX12_gives 10 = .ok (.aload_n 0, 1) := by decide +kernel
theorem dX12_gives_11 : decode cX12_gives 11 = .ok (.iload_n 2, 1) := by decide +kernel
theorem dX12_gives_12 : decode cX12_gives 12 = .ok (.putfield 544, 3) := by decide +kernel
theorem dX12_gives_15 : decode cX12_gives 15 = .ok (.aload_n 0, 1) := by decide +kernel
theorem dX12_gives_16 : decode cX12_gives 16 = .ok (.iload_n 3, 1) := by decide +kernel
theorem dX12_gives_17 : decode cX12_gives 17 = .ok (.putfield 547, 3) := by decide +kernel
theorem dX12_gives_20 : decode cX12_gives 20 = .ok (.return_, 1) := by decide +kernel
theorem dX12_in_0 : decode cX12_in 0 = .ok (.iload_n 0, 1) := by decide +kernel
theorem dX12_in_1 : decode cX12_in 1 = .ok (.iload_n 1, 1) := by decide +kernel
theorem dX12_in_2 : decode cX12_in 2 = .ok (.if_icmp .lt 12, 3) := by decide +kernel
theorem dX12_in_5 : decode cX12_in 5 = .ok (.iload_n 0, 1) := by decide +kernel
theorem dX12_in_6 : decode cX12_in 6 = .ok (.iload_n 2, 1) := by decide +kernel
theorem dX12_in_7 : decode cX12_in 7 = .ok (.if_icmp .gt 7, 3) := by decide +kernel
theorem dX12_in_10 : decode cX12_in 10 = .ok (.iconst 1, 1) := by decide +kernel
theorem dX12_in_11 : decode cX12_in 11 = .ok (.goto 4, 3) := by decide +kernel
theorem dX12_in_14 : decode cX12_in 14 = .ok (.iconst 0, 1) := by decide +kernel
theorem dX12_in_15 : decode cX12_in 15 = .ok (.ireturn, 1) := by decide +kernel
theorem dX12_init_0 : decode cX12_init 0 = .ok (.aload_n 0, 1) := by decide +kernel
theorem dX12_init_1 : decode cX12_init 1 = .ok (.invokespecial 1, 3) := by decide +kernel
theorem dX12_init_4 : decode cX12_init 4 = .ok (.aload_n 0, 1) := by decide +kernel
theorem dX12_init_5 : decode cX12_init 5 = .ok (.sipush 3000, 3) := by decide +kernel
theorem dX12_init_8 : decode cX12_init 8 = .ok (.newarray .int, 2) := by decide +kernel
theorem dX12_init_10 : decode cX12_init 10 = .ok (.putfield 7, 3) := by decide +kernel
theorem dX12_init_13 : decode cX12_init 13 = .ok (.aload_n 0, 1) := by decide +kernel
theorem dX12_init_14 : decode cX12_init 14 = .ok (.sipush 3000, 3) := by decide +kernel
theorem dX12_init_17 : decode cX12_init 17 = .ok (.newarray .int, 2) := by decide +kernel
theorem dX12_init_19 : decode cX12_init 19 = .ok (.putfield 13, 3) := by decide +kernel
theorem dX12_init_22 : decode cX12_init 22 = .ok (.aload_n 0, 1) := by decide +kernel
theorem dX12_init_23 : decode cX12_init 23 = .ok (.sipush 3000, 3) := by decide +kernel
theorem dX12_init_26 : decode cX12_init 26 = .ok (.newarray .int, 2) := by decide +kernel
theorem dX12_init_28 : decode cX12_init 28 = .ok (.putfield 16, 3) := by decide +kernel
theorem dX12_init_31 : decode cX12_init 31 = .ok (.aload_n 0, 1) := by decide +kernel
theorem dX12_init_32 : decode cX12_init 32 = .ok (.sipush 3000, 3) := by decide +kernel
theorem dX12_init_35 : decode cX12_init 35 = .ok (.newarray .int, 2) := by decide +kernel
theorem dX12_init_37 : decode cX12_init 37 = .ok (.putfield 19, 3) := by decide +kernel
theorem dX12_init_40 : decode cX12_init 40 = .ok (.aload_n 0, 1) := by decide +kernel
theorem dX12_init_41 : decode cX12_init 41 = .ok (.sipush 3000, 3) := by decide +kernel
theorem dX12_init_44 : decode cX12_init 44 = .ok (.newarray .boolean, 2) := by decide +kernel
theorem dX12_init_46 : decode cX12_init 46 = .ok (.putfield 22, 3) := by decide +kernel
theorem dX12_init_49 : decode cX12_init 49 = .ok (.aload_n 0, 1) := by decide +kernel
theorem dX12_init_50 : decode cX12_init 50 = .ok (.bipush 127, 2) := by decide +kernel
theorem dX12_init_52 : decode cX12_init 52 = .ok (.newarray .int, 2) := by decide +kernel
theorem dX12_init_54 : decode cX12_init 54 = .ok (.putfield 26, 3) := by decide +kernel
theorem dX12_init_57 : decode cX12_init 57 = .ok (.aload_n 0, 1) := by decide +kernel
theorem dX12_init_58 : decode cX12_init 58 = .ok (.bipush 127, 2) := by decide +kernel
theorem dX12_init_60 : decode cX12_init 60 = .ok (.newarray .int, 2) := by decide +kernel
theorem dX12_init_62 : decode cX12_init 62 = .ok (.putfield 29, 3) := by decide +kernel
theorem dX12_init_65 : decode cX12_init 65 = .ok (.aload_n 0, 1) := by decide +kernel
theorem dX12_init_66 : decode cX12_init 66 = .ok (.bipush 127, 2) := by decide +kernel
theorem dX12_init_68 : decode cX12_init 68 = .ok (.newarray .int, 2) := by decide +kernel
theorem dX12_init_70 : decode cX12_init 70 = .ok (.putfield 32, 3) := by decide +kernel
theorem dX12_init_73 : decode cX12_init 73 = .ok (.aload_n 0, 1) := by decide +kernel
theorem dX12_init_74 : decode cX12_init 74 = .ok (.bipush 127, 2) := by decide +kernel
theorem dX12_init_76 : decode cX12_init 76 = .ok (.newarray .boolean, 2) := by decide +kernel
theorem dX12_init_78 : decode cX12_init 78 = .ok (.putfield 35, 3) := by decide +kernel
theorem dX12_init_81 : decode cX12_init 81 = .ok (.aload_n 0, 1) := by decide +kernel
theorem dX12_init_82 : decode cX12_init 82 = .ok (.sipush 1200, 3) := by decide +kernel
theorem dX12_init_85 : decode cX12_init 85 = .ok (.newarray .int, 2) := by decide +kernel
theorem dX12_init_87 : decode cX12_init 87 = .ok (.putfield 38, 3) := by decide +kernel
theorem dX12_init_90 : decode cX12_init 90 = .ok (.aload_n 0, 1) := by decide +kernel
theorem dX12_init_91 : decode cX12_init 91 = .ok (.sipush 16000, 3) := by decide +kernel
theorem dX12_init_94 : decode cX12_init 94 = .ok (.newarray .int, 2) := by decide +kernel
theorem dX12_init_96 : decode cX12_init 96 = .ok (.putfield 41, 3) := by decide +kernel
theorem dX12_init_99 : decode cX12_init 99 = .ok (.aload_n 0, 1) := by decide +kernel
theorem dX12_init_100 : decode cX12_init 100 = .ok (.sipush 16000, 3) := by decide +kernel
theorem dX12_init_103 : decode cX12_init 103 = .ok (.newarray .int, 2) := by decide +kernel
theorem dX12_init_105 : decode cX12_init 105 = .ok (.putfield 44, 3) := by decide +kernel
theorem dX12_init_108 : decode cX12_init 108 = .ok (.aload_n 0, 1) := by decide +kernel
theorem dX12_init_109 : decode cX12_init 109 = .ok (.sipush 16000, 3) := by decide +kernel
theorem dX12_init_112 : decode cX12_init 112 = .ok (.newarray .int, 2) := by decide +kernel
theorem dX12_init_114 : decode cX12_init 114 = .ok (.putfield 47, 3) := by decide +kernel
theorem dX12_init_117 : decode cX12_init 117 = .ok (.aload_n 0, 1) := by decide +kernel
theorem dX12_init_118 : decode cX12_init 118 = .ok (.sipush 16000, 3) := by decide +kernel
theorem dX12_init_121 : decode cX12_init 121 = .ok (.newarray .int, 2) := by decide +kernel
theorem dX12_init_123 : decode cX12_init 123 = .ok (.putfield 50, 3) := by decide +kernel
theorem dX12_init_126 : decode cX12_init 126 = .ok (.aload_n 0, 1) := by decide +kernel
theorem dX12_init_127 : decode cX12_init 127 = .ok (.sipush 16000, 3) := by decide +kernel
theorem dX12_init_130 : decode cX12_init 130 = .ok (.newarray .int, 2) := by decide +kernel
theorem dX12_init_132 : decode cX12_init 132 = .ok (.putfield 53, 3) := by decide +kernel
theorem dX12_init_135 : decode cX12_init 135 = .ok (.aload_n 0, 1) := by decide +kernel
theorem dX12_init_136 : decode cX12_init 136 = .ok (.sipush 16000, 3) := by decide +kernel
theorem dX12_init_139 : decode cX12_init 139 = .ok (.newarray .int, 2) := by decide +kernel
theorem dX12_init_141 : decode cX12_init 141 = .ok (.putfield 56, 3) := by decide +kernel
theorem dX12_init_144 : decode cX12_init 144 = .ok (.aload_n 0, 1) := by decide +kernel
theorem dX12_init_145 : decode cX12_init 145 = .ok (.sipush 2048, 3) := by decide +kernel
theorem dX12_init_148 : decode cX12_init 148 = .ok (.newarray .int, 2) := by decide +kernel
theorem dX12_init_150 : decode cX12_init 150 = .ok (.putfield 59, 3) := by decide +kernel
theorem dX12_init_153 : decode cX12_init 153 = .ok (.aload_n 0, 1) := by decide +kernel
theorem dX12_init_154 : decode cX12_init 154 = .ok (.sipush 16000, 3) := by decide +kernel
theorem dX12_init_157 : decode cX12_init 157 = .ok (.newarray .boolean, 2) := by decide +kernel
theorem dX12_init_159 : decode cX12_init 159 = .ok (.putfield 62, 3) := by decide +kernel
theorem dX12_init_162 : decode cX12_init 162 = .ok (.aload_n 0, 1) := by decide +kernel
theorem dX12_init_163 : decode cX12_init 163 = .ok (.sipush 1200, 3) := by decide +kernel
theorem dX12_init_166 : decode cX12_init 166 = .ok (.newarray .int, 2) := by decide +kernel
theorem dX12_init_168 : decode cX12_init 168 = .ok (.putfield 65, 3) := by decide +kernel
theorem dX12_init_171 : decode cX12_init 171 = .ok (.aload_n 0, 1) := by decide +kernel
theorem dX12_init_172 : decode cX12_init 172 = .ok (.sipush 300, 3) := by decide +kernel
theorem dX12_init_175 : decode cX12_init 175 = .ok (.newarray .byte, 2) := by decide +kernel
theorem dX12_init_177 : decode cX12_init 177 = .ok (.putfield 68, 3) := by decide +kernel
theorem dX12_init_180 : decode cX12_init 180 = .ok (.aload_n 0, 1) := by decide +kernel
theorem dX12_init_181 : decode cX12_init 181 = .ok (.bipush 120, 2) := by decide +kernel
theorem dX12_init_183 : decode cX12_init 183 = .ok (.newarray .int, 2) := by decide +kernel
theorem dX12_init_185 : decode cX12_init 185 = .ok (.putfield 72, 3) := by decide +kernel
theorem dX12_init_188 : decode cX12_init 188 = .ok (.aload_n 0, 1) := by decide +kernel
theorem dX12_init_189 : decode cX12_init 189 = .ok (.bipush 120, 2) := by decide +kernel
theorem dX12_init_191 : decode cX12_init 191 = .ok (.newarray .int, 2) := by decide +kernel
theorem dX12_init_193 : decode cX12_init 193 = .ok (.putfield 75, 3) := by decide +kernel
theorem dX12_init_196 : decode cX12_init 196 = .ok (.aload_n 0, 1) := by decide +kernel
theorem dX12_init_197 : decode cX12_init 197 = .ok (.bipush 120, 2) := by decide +kernel
theorem dX12_init_199 : decode cX12_init 199 = .ok (.newarray .int, 2) := by decide +kernel
theorem dX12_init_201 : decode cX12_init 201 = .ok (.putfield 78, 3) := by decide +kernel
theorem dX12_init_204 : decode cX12_init 204 = .ok (.aload_n 0, 1) := by decide +kernel
theorem dX12_init_205 : decode cX12_init 205 = .ok (.bipush 120, 2) := by decide +kernel
theorem dX12_init_207 : decode cX12_init 207 = .ok (.newarray .int, 2) := by decide +kernel
theorem dX12_init_209 : decode cX12_init 209 = .ok (.putfield 81, 3) := by decide +kernel
theorem dX12_init_212 : decode cX12_init 212 = .ok (.aload_n 0, 1) := by decide +kernel
theorem dX12_init_213 : decode cX12_init 213 = .ok (.bipush 120, 2) := by decide +kernel
theorem dX12_init_215 : decode cX12_init 215 = .ok (.newarray .int, 2) := by decide +kernel
theorem dX12_init_217 : decode cX12_init 217 = .ok (.putfield 84, 3) := by decide +kernel
theorem dX12_init_220 : decode cX12_init 220 = .ok (.aload_n 0, 1) := by decide +kernel
theorem dX12_init_221 : decode cX12_init 221 = .ok (.bipush 120, 2) := by decide +kernel
theorem dX12_init_223 : decode cX12_init 223 = .ok (.newarray .int, 2) := by decide +kernel
theorem dX12_init_225 : decode cX12_init 225 = .ok (.putfield 87, 3) := by decide +kernel
theorem dX12_init_228 : decode cX12_init 228 = .ok (.aload_n 0, 1) := by decide +kernel
theorem dX12_init_229 : decode cX12_init 229 = .ok (.bipush 120, 2) := by decide +kernel
theorem dX12_init_231 : decode cX12_init 231 = .ok (.newarray .int, 2) := by decide +kernel
