theorem dJ0_charAt_5068e_0 : decode cJ0_charAt_5068e 0 = .ok (.aload_n 0, 1) := by decide +kernel
theorem dJ0_charAt_5068e_1 : decode cJ0_charAt_5068e 1 = .ok (.invokevirtual 492, 3) := by decide +kernel
theorem dJ0_charAt_5068e_4 : decode cJ0_charAt_5068e 4 = .ok (.ifCond .eq 12, 3) := by decide +kernel
theorem dJ0_charAt_5068e_7 : decode cJ0_charAt_5068e 7 = .ok (.aload_n 0, 1) := by decide +kernel
theorem dJ0_charAt_5068e_8 : decode cJ0_charAt_5068e 8 = .ok (.getfield 9, 3) := by decide +kernel
theorem dJ0_charAt_5068e_11 : decode cJ0_charAt_5068e 11 = .ok (.iload_n 1, 1) := by decide +kernel
theorem dJ0_charAt_5068e_12 : decode cJ0_charAt_5068e 12 = .ok (.invokestatic 495, 3) := by decide +kernel
theorem dJ0_charAt_5068e_15 : decode cJ0_charAt_5068e 15 = .ok (.ireturn, 1) := by decide +kernel
theorem dJ0_checkIndex_df160_0 : decode cJ0_checkIndex_df160 0 = .ok (.iload_n 0, 1) := by decide +kernel
theorem dJ0_checkIndex_df160_1 : decode cJ0_checkIndex_df160 1 = .ok (.iload_n 1, 1) := by decide +kernel
theorem dJ0_checkIndex_df160_2 : decode cJ0_checkIndex_df160 2 = .ok (.getstatic 1053, 3) := by decide +kernel
theorem dJ0_checkIndex_df160_5 : decode cJ0_checkIndex_df160 5 = .ok (.invokestatic 1059, 3) := by decide +kernel
theorem dJ0_checkIndex_df160_8 : decode cJ0_checkIndex_df160 8 = .ok (.pop, 1) := by decide +kernel
theorem dJ0_checkIndex_df160_9 : decode cJ0_checkIndex_df160 9 = .ok (.return_, 1) := by decide +kernel
theorem dJ0_coder_7d493_0 : decode cJ0_coder_7d493 0 = .ok (.getstatic 38, 3) := by decide +kernel
theorem dJ0_coder_7d493_3 : decode cJ0_coder_7d493 3 = .ok (.ifCond .eq 10, 3) := by decide +kernel
theorem dJ0_coder_7d493_6 : decode cJ0_coder_7d493 6 = .ok (.aload_n 0, 1) := by decide +kernel
theorem dJ0_coder_7d493_7 : decode cJ0_coder_7d493 7 = .ok (.getfield 15, 3) := by decide +kernel
theorem dJ0_coder_7d493_10 : decode cJ0_coder_7d493 10 = .ok (.goto 4, 3) := by decide +kernel
theorem dJ0_coder_7d493_14 : decode cJ0_coder_7d493 14 = .ok (.ireturn, 1) := by decide +kernel
theorem dJ0_isLatin1_aae02_0 : decode cJ0_isLatin1_aae02 0 = .ok (.getstatic 38, 3) := by decide +kernel
theorem dJ0_isLatin1_aae02_3 : decode cJ0_isLatin1_aae02 3 = .ok (.ifCond .eq 14, 3) := by decide +kernel
theorem dJ0_isLatin1_aae02_6 : decode cJ0_isLatin1_aae02 6 = .ok (.aload_n 0, 1) := by decide +kernel
theorem dJ0_isLatin1_aae02_7 : decode cJ0_isLatin1_aae02 7 = .ok (.getfield 15, 3) := by decide +kernel
theorem dJ0_isLatin1_aae02_10 : decode cJ0_isLatin1_aae02 10 = .ok (.ifCond .ne 7, 3) := by decide +kernel
theorem dJ0_isLatin1_aae02_13 : decode cJ0_isLatin1_aae02 13 = .ok (.iconst 1, 1) := by decide +kernel
theorem dJ0_isLatin1_aae02_14 : decode cJ0_isLatin1_aae02 14 = .ok (.goto 4, 3) := by decide +kernel
theorem dJ0_isLatin1_aae02_18 : decode cJ0_isLatin1_aae02 18 = .ok (.ireturn, 1) := by decide +kernel
theorem dJ0_length_8abf5_0 : decode cJ0_length_8abf5 0 = .ok (.aload_n 0, 1) := by decide +kernel
theorem dJ0_length_8abf5_1 : decode cJ0_length_8abf5 1 = .ok (.getfield 9, 3) := by decide +kernel
theorem dJ0_length_8abf5_4 : decode cJ0_length_8abf5 4 = .ok (.arraylength, 1) := by decide +kernel
theorem dJ0_length_8abf5_5 : decode cJ0_length_8abf5 5 = .ok (.aload_n 0, 1) := by decide +kernel
theorem dJ0_length_8abf5_6 : decode cJ0_length_8abf5 6 = .ok (.invokevirtual 335, 3) := by decide +kernel
theorem dJ0_length_8abf5_9 : decode cJ0_length_8abf5 9 = .ok (.ishr, 1) := by decide +kernel
theorem dJ0_length_8abf5_10 : decode cJ0_length_8abf5 10 = .ok (.ireturn, 1) := by decide +kernel
theorem dJ1_charAt_3b067_0 : decode cJ1_charAt_3b067 0 = .ok (.iload_n 1, 1) := by decide +kernel
theorem dJ1_charAt_3b067_1 : decode cJ1_charAt_3b067 1 = .ok (.aload_n 0, 1) := by decide +kernel
theorem dJ1_charAt_3b067_2 : decode cJ1_charAt_3b067 2 = .ok (.arraylength, 1) := by decide +kernel
theorem dJ1_charAt_3b067_3 : decode cJ1_charAt_3b067 3 = .ok (.invokestatic 9, 3) := by decide +kernel
theorem dJ1_charAt_3b067_6 : decode cJ1_charAt_3b067 6 = .ok (.aload_n 0, 1) := by decide +kernel
theorem dJ1_charAt_3b067_7 : decode cJ1_charAt_3b067 7 = .ok (.iload_n 1, 1) := by decide +kernel
theorem dJ1_charAt_3b067_8 : decode cJ1_charAt_3b067 8 = .ok (.baload, 1) := by decide +kernel
theorem dJ1_charAt_3b067_9 : decode cJ1_charAt_3b067 9 = .ok (.sipush 255, 3) := by decide +kernel
theorem dJ1_charAt_3b067_12 : decode cJ1_charAt_3b067 12 = .ok (.iand, 1) := by decide +kernel
theorem dJ1_charAt_3b067_13 : decode cJ1_charAt_3b067 13 = .ok (.i2c, 1) := by decide +kernel
theorem dJ1_charAt_3b067_14 : decode cJ1_charAt_3b067 14 = .ok (.ireturn, 1) := by decide +kernel
theorem dJ3_checkIndex_8e157_0 : decode cJ3_checkIndex_8e157 0 = .ok (.iload_n 0, 1) := by decide +kernel
theorem dJ3_checkIndex_8e157_1 : decode cJ3_checkIndex_8e157 1 = .ok (.ifCond .lt 8, 3) := by decide +kernel
theorem dJ3_checkIndex_8e157_4 : decode cJ3_checkIndex_8e157 4 = .ok (.iload_n 0, 1) := by decide +kernel
theorem dJ3_checkIndex_8e157_5 : decode cJ3_checkIndex_8e157 5 = .ok (.iload_n 1, 1) := by decide +kernel
theorem dJ3_checkIndex_8e157_6 : decode cJ3_checkIndex_8e157 6 = .ok (.if_icmp .lt 10, 3) := by decide +kernel
theorem dJ3_checkIndex_8e157_16 : decode cJ3_checkIndex_8e157 16 = .ok (.iload_n 0, 1) := by decide +kernel
theorem dJ3_checkIndex_8e157_17 : decode cJ3_checkIndex_8e157 17 = .ok (.ireturn, 1) := by decide +kernel
theorem dJ7_fill_53178_0 : decode cJ7_fill_53178 0 = .ok (.iconst 0, 1) := by decide +kernel
theorem dJ7_fill_53178_1 : decode cJ7_fill_53178 1 = .ok (.istore_n 2, 1) := by decide +kernel
theorem dJ7_fill_53178_2 : decode cJ7_fill_53178 2 = .ok (.aload_n 0, 1) := by decide +kernel
theorem dJ7_fill_53178_3 : decode cJ7_fill_53178 3 = .ok (.arraylength, 1) := by decide +kernel
theorem dJ7_fill_53178_4 : decode cJ7_fill_53178 4 = .ok (.istore_n 3, 1) := by decide +kernel
theorem dJ7_fill_53178_5 : decode cJ7_fill_53178 5 = .ok (.iload_n 2, 1) := by decide +kernel
theorem dJ7_fill_53178_6 : decode cJ7_fill_53178 6 = .ok (.iload_n 3, 1) := by decide +kernel
theorem dJ7_fill_53178_7 : decode cJ7_fill_53178 7 = .ok (.if_icmp .ge 13, 3) := by decide +kernel
theorem dJ7_fill_53178_10 : decode cJ7_fill_53178 10 = .ok (.aload_n 0, 1) := by decide +kernel
theorem dJ7_fill_53178_11 : decode cJ7_fill_53178 11 = .ok (.iload_n 2, 1) := by decide +kernel
theorem dJ7_fill_53178_12 : decode cJ7_fill_53178 12 = .ok (.iload_n 1, 1) := by decide +kernel
theorem dJ7_fill_53178_13 : decode cJ7_fill_53178 13 = .ok (.iastore, 1) := by decide +kernel
theorem dJ7_fill_53178_14 : decode cJ7_fill_53178 14 = .ok (.iinc 2 1, 3) := by decide +kernel
theorem dJ7_fill_53178_17 : decode cJ7_fill_53178 17 = .ok (.goto (-12), 3) := by decide +kernel
theorem dJ7_fill_53178_20 : decode cJ7_fill_53178 20 = .ok (.return_, 1) := by decide +kernel
theorem dX0_dropCoercions_0 : decode cX0_dropCoercions 0 = .ok (.aload_n 0, 1) := by decide +kernel
theorem dX0_dropCoercions_1 : decode cX0_dropCoercions 1 = .ok (.getfield 42, 3) := by decide +kernel
theorem dX0_dropCoercions_4 : decode cX0_dropCoercions 4 = .ok (.istore_n 1, 1) := by decide +kernel
theorem dX0_dropCoercions_5 : decode cX0_dropCoercions 5 = .ok (.aload_n 0, 1) := by decide +kernel
theorem dX0_dropCoercions_6 : decode cX0_dropCoercions 6 = .ok (.iconst 0, 1) := by decide +kernel
theorem dX0_dropCoercions_7 : decode cX0_dropCoercions 7 = .ok (.putfield 42, 3) := by decide +kernel
theorem dX0_dropCoercions_10 : decode cX0_dropCoercions 10 = .ok (.aload_n 0, 1) := by decide +kernel
theorem dX0_dropCoercions_11 : decode cX0_dropCoercions 11 = .ok (.getfield 21, 3) := by decide +kernel
theorem dX0_dropCoercions_14 : decode cX0_dropCoercions 14 = .ok (.getfield 149, 3) := by decide +kernel
theorem dX0_dropCoercions_17 : decode cX0_dropCoercions 17 = .ok (.iconst 3, 1) := by decide +kernel
theorem dX0_dropCoercions_18 : decode cX0_dropCoercions 18 = .ok (.invokevirtual 79, 3) := by decide +kernel
theorem dX0_dropCoercions_21 : decode cX0_dropCoercions 21 = .ok (.iload_n 1, 1) := by decide +kernel
theorem dX0_dropCoercions_22 : decode cX0_dropCoercions 22 = .ok (.ireturn, 1) := by decide +kernel
theorem dX0_dropTypes_0 : decode cX0_dropTypes 0 = .ok (.aload_n 0, 1) := by decide +kernel
theorem dX0_dropTypes_1 : decode cX0_dropTypes 1 = .ok (.getfield 38, 3) := by decide +kernel
theorem dX0_dropTypes_4 : decode cX0_dropTypes 4 = .ok (.istore_n 1, 1) := by decide +kernel
theorem dX0_dropTypes_5 : decode cX0_dropTypes 5 = .ok (.aload_n 0, 1) := by decide +kernel
theorem dX0_dropTypes_6 : decode cX0_dropTypes 6 = .ok (.iconst 0, 1) := by decide +kernel
theorem dX0_dropTypes_7 : decode cX0_dropTypes 7 = .ok (.putfield 38, 3) := by decide +kernel
theorem dX0_dropTypes_10 : decode cX0_dropTypes 10 = .ok (.aload_n 0, 1) := by decide +kernel
theorem dX0_dropTypes_11 : decode cX0_dropTypes 11 = .ok (.getfield 12, 3) := by decide +kernel
theorem dX0_dropTypes_14 : decode cX0_dropTypes 14 = .ok (.getfield 75, 3) := by decide +kernel
theorem dX0_dropTypes_17 : decode cX0_dropTypes 17 = .ok (.iconst 4, 1) := by decide +kernel
theorem dX0_dropTypes_18 : decode cX0_dropTypes 18 = .ok (.invokevirtual 79, 3) := by decide +kernel
theorem dX0_dropTypes_21 : decode cX0_dropTypes 21 = .ok (.iload_n 1, 1) := by decide +kernel
theorem dX0_dropTypes_22 : decode cX0_dropTypes 22 = .ok (.ireturn, 1) := by decide +kernel
theorem dX0_hasCoercion_0 : decode cX0_hasCoercion 0 = .ok (.iload_n 1, 1) := by decide +kernel
theorem dX0_hasCoercion_1 : decode cX0_hasCoercion 1 = .ok (.ifCond .lt 15, 3) := by decide +kernel
theorem dX0_hasCoercion_4 : decode cX0_hasCoercion 4 = .ok (.iload_n 1, 1) := by decide +kernel
theorem dX0_hasCoercion_5 : decode cX0_hasCoercion 5 = .ok (.aload_n 0, 1) := by decide +kernel
theorem dX0_hasCoercion_6 : decode cX0_hasCoercion 6 = .ok (.getfield 42, 3) := by decide +kernel
theorem dX0_hasCoercion_9 : decode cX0_hasCoercion 9 = .ok (.if_icmp .ge 7, 3) := by decide +kernel
theorem dX0_hasCoercion_16 : decode cX0_hasCoercion 16 = .ok (.iconst 0, 1) := by decide +kernel
theorem dX0_hasCoercion_17 : decode cX0_hasCoercion 17 = .ok (.ireturn, 1) := by decide +kernel
theorem dX0_hasTypes_0 : decode cX0_hasTypes 0 = .ok (.iload_n 1, 1) := by decide +kernel
theorem dX0_hasTypes_1 : decode cX0_hasTypes 1 = .ok (.ifCond .lt 27, 3) := by decide +kernel
theorem dX0_hasTypes_4 : decode cX0_hasTypes 4 = .ok (.iload_n 1, 1) := by decide +kernel
theorem dX0_hasTypes_5 : decode cX0_hasTypes 5 = .ok (.aload_n 0, 1) := by decide +kernel
theorem dX0_hasTypes_6 : decode cX0_hasTypes 6 = .ok (.getfield 38, 3) := by decide +kernel
theorem dX0_hasTypes_9 : decode cX0_hasTypes 9 = .ok (.if_icmp .ge 19, 3) := by decide +kernel
theorem dX0_hasTypes_28 : decode cX0_hasTypes 28 = .ok (.iconst 0, 1) := by decide +kernel
theorem dX0_hasTypes_29 : decode cX0_hasTypes 29 = .ok (.ireturn, 1) := by decide +kernel
theorem dX0_init_0 : decode cX0_init 0 = .ok (.aload_n 0, 1) := by decide +kernel
theorem dX0_init_1 : decode cX0_init 1 = .ok (.invokespecial 3, 3) := by decide +kernel
theorem dX0_init_4 : decode cX0_init 4 = .ok (.aload_n 0, 1) := by decide +kernel
theorem dX0_init_5 : decode cX0_init 5 = .ok (.new 9, 3) := by decide +kernel
theorem dX0_init_8 : decode cX0_init 8 = .ok (.dup, 1) := by decide +kernel
theorem dX0_init_9 : decode cX0_init 9 = .ok (.invokespecial 11, 3) := by decide +kernel
theorem dX0_init_12 : decode cX0_init 12 = .ok (.putfield 12, 3) := by decide +kernel
theorem dX0_init_15 : decode cX0_init 15 = .ok (.aload_n 0, 1) := by decide +kernel
theorem dX0_init_16 : decode cX0_init 16 = .ok (.new 18, 3) := by decide +kernel
theorem dX0_init_19 : decode cX0_init 19 = .ok (.dup, 1) := by decide +kernel
theorem dX0_init_20 : decode cX0_init 20 = .ok (.invokespecial 20, 3) := by decide +kernel
theorem dX0_init_23 : decode cX0_init 23 = .ok (.putfield 21, 3) := by decide +kernel
theorem dX0_init_26 : decode cX0_init 26 = .ok (.aload_n 0, 1) := by decide +kernel
theorem dX0_init_27 : decode cX0_init 27 = .ok (.bipush 12, 2) := by decide +kernel
theorem dX0_init_29 : decode cX0_init 29 = .ok (.newarray .int, 2) := by decide +kernel
theorem dX0_init_31 : decode cX0_init 31 = .ok (.putfield 25, 3) := by decide +kernel
theorem dX0_init_34 : decode cX0_init 34 = .ok (.aload_n 0, 1) := by decide +kernel
theorem dX0_init_35 : decode cX0_init 35 = .ok (.bipush 16, 2) := by decide +kernel
theorem dX0_init_37 : decode cX0_init 37 = .ok (.newarray .int, 2) := by decide +kernel
theorem dX0_init_39 : decode cX0_init 39 = .ok (.putfield 29, 3) := by decide +kernel
theorem dX0_init_42 : decode cX0_init 42 = .ok (.aload_n 0, 1) := by decide +kernel
theorem dX0_init_43 : decode cX0_init 43 = .ok (.bipush 16, 2) := by decide +kernel
theorem dX0_init_45 : decode cX0_init 45 = .ok (.newarray .int, 2) := by decide +kernel
theorem dX0_init_47 : decode cX0_init 47 = .ok (.putfield 32, 3) := by decide +kernel
theorem dX0_init_50 : decode cX0_init 50 = .ok (.aload_n 0, 1) := by decide +kernel
theorem dX0_init_51 : decode cX0_init 51 = .ok (.bipush 16, 2) := by decide +kernel
theorem dX0_init_53 : decode cX0_init 53 = .ok (.newarray .int, 2) := by decide +kernel
theorem dX0_init_55 : decode cX0_init 55 = .ok (.putfield 35, 3) := by decide +kernel
theorem dX0_init_58 : decode cX0_init 58 = .ok (.aload_n 0, 1) := by decide +kernel
theorem dX0_init_59 : decode cX0_init 59 = .ok (.iconst 0, 1) := by decide +kernel
theorem dX0_init_60 : decode cX0_init 60 = .ok (.putfield 38, 3) := by decide +kernel
theorem dX0_init_63 : decode cX0_init 63 = .ok (.aload_n 0, 1) := by decide +kernel
theorem dX0_init_64 : decode cX0_init 64 = .ok (.iconst 0, 1) := by decide +kernel
theorem dX0_init_65 : decode cX0_init 65 = .ok (.putfield 42, 3) := by decide +kernel
theorem dX0_init_68 : decode cX0_init 68 = .ok (.return_, 1) := by decide +kernel
theorem dX10_digits_0 : decode cX10_digits 0 = .ok (.sipush 1000, 3) := by decide +kernel
theorem dX10_digits_3 : decode cX10_digits 3 = .ok (.istore_n 2, 1) := by decide +kernel
theorem dX10_digits_4 : decode cX10_digits 4 = .ok (.iload_n 2, 1) := by decide +kernel
theorem dX10_digits_5 : decode cX10_digits 5 = .ok (.iconst 1, 1) := by decide +kernel
theorem dX10_digits_6 : decode cX10_digits 6 = .ok (.if_icmp .le 16, 3) := by decide +kernel
theorem dX10_digits_9 : decode cX10_digits 9 = .ok (.iload_n 1, 1) := by decide +kernel
theorem dX10_digits_10 : decode cX10_digits 10 = .ok (.iload_n 2, 1) := by decide +kernel
theorem dX10_digits_11 : decode cX10_digits 11 = .ok (.if_icmp .ge 11, 3) := by decide +kernel
theorem dX10_digits_14 : decode cX10_digits 14 = .ok (.iload_n 2, 1) := by decide +kernel
theorem dX10_digits_15 : decode cX10_digits 15 = .ok (.bipush 10, 2) := by decide +kernel
theorem dX10_digits_17 : decode cX10_digits 17 = .ok (.idiv, 1) := by decide +kernel
theorem dX10_digits_18 : decode cX10_digits 18 = .ok (.istore_n 2, 1) := by decide +kernel
theorem dX10_digits_19 : decode cX10_digits 19 = .ok (.goto (-15), 3) := by decide +kernel
theorem dX10_digits_22 : decode cX10_digits 22 = .ok (.iload_n 2, 1) := by decide +kernel
theorem dX10_digits_23 : decode cX10_digits 23 = .ok (.ifCond .le 24, 3) := by decide +kernel
theorem dX10_digits_26 : decode cX10_digits 26 = .ok (.aload_n 0, 1) := by decide +kernel
theorem dX10_digits_27 : decode cX10_digits 27 = .ok (.bipush 48, 2) := by decide +kernel
theorem dX10_digits_29 : decode cX10_digits 29 = .ok (.iload_n 1, 1) := by decide +kernel
theorem dX10_digits_30 : decode cX10_digits 30 = .ok (.iload_n 2, 1) := by decide +kernel
theorem dX10_digits_31 : decode cX10_digits 31 = .ok (.idiv, 1) := by decide +kernel
theorem dX10_digits_32 : decode cX10_digits 32 = .ok (.bipush 10, 2) := by decide +kernel
theorem dX10_digits_34 : decode cX10_digits 34 = .ok (.irem, 1) := by decide +kernel
theorem dX10_digits_35 : decode cX10_digits 35 = .ok (.iadd, 1) := by decide +kernel
theorem dX10_digits_36 : decode cX10_digits 36 = .ok (.invokevirtual 30, 3) := by decide +kernel
theorem dX10_digits_39 : decode cX10_digits 39 = .ok (.iload_n 2, 1) := by decide +kernel
theorem dX10_digits_40 : decode cX10_digits 40 = .ok (.bipush 10, 2) := by decide +kernel
theorem dX10_digits_42 : decode cX10_digits 42 = .ok (.idiv, 1) := by decide +kernel
theorem dX10_digits_43 : decode cX10_digits 43 = .ok (.istore_n 2, 1) := by decide +kernel
theorem dX10_digits_44 : decode cX10_digits 44 = .ok (.goto (-22), 3) := by decide +kernel
theorem dX10_digits_47 : decode cX10_digits 47 = .ok (.return_, 1) := by decide +kernel
theorem dX10_init_0 : decode cX10_init 0 = .ok (.aload_n 0, 1) := by decide +kernel
theorem dX10_init_1 : decode cX10_init 1 = .ok (.invokespecial 3, 3) := by decide +kernel
theorem dX10_init_4 : decode cX10_init 4 = .ok (.return_, 1) := by decide +kernel
theorem dX10_sign_0 : decode cX10_sign 0 = .ok (.aload_n 0, 1) := by decide +kernel
theorem dX10_sign_1 : decode cX10_sign 1 = .ok (.getfield 15, 3) := by decide +kernel
theorem dX10_sign_4 : decode cX10_sign 4 = .ok (.sipush 3000, 3) := by decide +kernel
theorem dX10_sign_7 : decode cX10_sign 7 = .ok (.if_icmp .lt 4, 3) := by decide +kernel
theorem dX10_sign_11 : decode cX10_sign 11 = .ok (.aload_n 0, 1) := by decide +kernel
theorem dX10_sign_12 : decode cX10_sign 12 = .ok (.getfield 15, 3) := by decide +kernel
theorem dX10_sign_15 : decode cX10_sign 15 = .ok (.aload_n 0, 1) := by decide +kernel
theorem dX10_sign_16 : decode cX10_sign 16 = .ok (.getfield 9, 3) := by decide +kernel
theorem dX10_sign_19 : decode cX10_sign 19 = .ok (.if_icmp .ne 8, 3) := by decide +kernel
theorem dX10_sign_22 : decode cX10_sign 22 = .ok (.aload_n 0, 1) := by decide +kernel
theorem dX10_sign_23 : decode cX10_sign 23 = .ok (.iload_n 1, 1) := by decide +kernel
theorem dX10_sign_24 : decode cX10_sign 24 = .ok (.putfield 18, 3) := by decide +kernel
theorem dX10_sign_27 : decode cX10_sign 27 = .ok (.aload_n 0, 1) := by decide +kernel
theorem dX10_sign_28 : decode cX10_sign 28 = .ok (.dup, 1) := by decide +kernel
theorem dX10_sign_29 : decode cX10_sign 29 = .ok (.getfield 15, 3) := by decide +kernel
theorem dX10_sign_32 : decode cX10_sign 32 = .ok (.iconst 1, 1) := by decide +kernel
theorem dX10_sign_33 : decode cX10_sign 33 = .ok (.iadd, 1) := by decide +kernel
theorem dX10_sign_34 : decode cX10_sign 34 = .ok (.putfield 15, 3) := by decide +kernel
theorem dX10_sign_37 : decode cX10_sign 37 = .ok (.return_, 1) := by decide +kernel
theorem dX10_start_0 : decode cX10_start 0 = .ok (.aload_n 0, 1) := by decide +kernel
theorem dX10_start_1 : decode cX10_start 1 = .ok (.iload_n 1, 1) := by decide +kernel
theorem dX10_start_2 : decode cX10_start 2 = .ok (.putfield 9, 3) := by decide +kernel
theorem dX10_start_5 : decode cX10_start 5 = .ok (.aload_n 0, 1) := by decide +kernel
theorem dX10_start_6 : decode cX10_start 6 = .ok (.iconst 0, 1) := by decide +kernel
theorem dX10_start_7 : decode cX10_start 7 = .ok (.putfield 15, 3) := by decide +kernel
theorem dX10_start_10 : decode cX10_start 10 = .ok (.aload_n 0, 1) := by decide +kernel
theorem dX10_start_11 : decode cX10_start 11 = .ok (.bipush (-4), 2) := by decide +kernel
theorem dX10_start_13 : decode cX10_start 13 = .ok (.putfield 18, 3) := by decide +kernel
theorem dX10_start_16 : decode cX10_start 16 = .ok (.return_, 1) := by decide +kernel
theorem dX10_word_0 : decode cX10_word 0 = .ok (.iconst 0, 1) := by decide +kernel
theorem dX10_word_1 : decode cX10_word 1 = .ok (.istore_n 2, 1) := by decide +kernel
theorem dX10_word_2 : decode cX10_word 2 = .ok (.iload_n 2, 1) := by decide +kernel
theorem dX10_word_3 : decode cX10_word 3 = .ok (.aload_n 1, 1) := by decide +kernel
theorem dX10_word_4 : decode cX10_word 4 = .ok (.invokevirtual 21, 3) := by decide +kernel
theorem dX10_word_7 : decode cX10_word 7 = .ok (.if_icmp .ge 18, 3) := by decide +kernel
theorem dX10_word_10 : decode cX10_word 10 = .ok (.aload_n 0, 1) := by decide +kernel
theorem dX10_word_11 : decode cX10_word 11 = .ok (.aload_n 1, 1) := by decide +kernel
theorem dX10_word_12 : decode cX10_word 12 = .ok (.iload_n 2, 1) := by decide +kernel
theorem dX10_word_13 : decode cX10_word 13 = .ok (.invokevirtual 26, 3) := by decide +kernel
theorem dX10_word_16 : decode cX10_word 16 = .ok (.invokevirtual 30, 3) := by decide +kernel
theorem dX10_word_19 : decode cX10_word 19 = .ok (.iinc 2 1, 3) := by decide +kernel
theorem dX10_word_22 : decode cX10_word 22 = .ok (.goto (-20), 3) := by decide +kernel
theorem dX10_word_25 : decode cX10_word 25 = .ok (.return_, 1) := by decide +kernel
theorem dX10_writeTerm_0 : decode cX10_writeTerm 0 = .ok (.aload_n 1, 1) := by decide +kernel
theorem dX10_writeTerm_1 : decode cX10_writeTerm 1 = .ok (.getfield 90, 3) := by decide +kernel
theorem dX10_writeTerm_4 : decode cX10_writeTerm 4 = .ok (.getfield 96, 3) := by decide +kernel
theorem dX10_writeTerm_7 : decode cX10_writeTerm 7 = .ok (.iload_n 2, 1) := by decide +kernel
theorem dX10_writeTerm_8 : decode cX10_writeTerm 8 = .ok (.invokestatic 102, 3) := by decide +kernel
theorem dX10_writeTerm_11 : decode cX10_writeTerm 11 = .ok (.istore 5, 2) := by decide +kernel
theorem dX10_writeTerm_13 : decode cX10_writeTerm 13 = .ok (.aload_n 1, 1) := by decide +kernel
theorem dX10_writeTerm_14 : decode cX10_writeTerm 14 = .ok (.getfield 90, 3) := by decide +kernel
theorem dX10_writeTerm_17 : decode cX10_writeTerm 17 = .ok (.getfield 106, 3) := by decide +kernel
theorem dX10_writeTerm_20 : decode cX10_writeTerm 20 = .ok (.iload_n 2, 1) := by decide +kernel
theorem dX10_writeTerm_21 : decode cX10_writeTerm 21 = .ok (.invokestatic 102, 3) := by decide +kernel
theorem dX10_writeTerm_24 : decode cX10_writeTerm 24 = .ok (.istore 6, 2) := by decide +kernel
theorem dX10_writeTerm_26 : decode cX10_writeTerm 26 = .ok (.iload 4, 2) := by decide +kernel
theorem dX10_writeTerm_28 : decode cX10_writeTerm 28 = .ok (.ifCond .gt 4, 3) := by decide +kernel
theorem dX10_writeTerm_32 : decode cX10_writeTerm 32 = .ok (.iload 5, 2) := by decide +kernel
theorem dX10_writeTerm_34 : decode cX10_writeTerm 34 = .ok (.ifCond .ne 12, 3) := by decide +kernel
theorem dX10_writeTerm_37 : decode cX10_writeTerm 37 = .ok (.aload_n 0, 1) := by decide +kernel
theorem dX10_writeTerm_38 : decode cX10_writeTerm 38 = .ok (.iload 6, 2) := by decide +kernel
theorem dX10_writeTerm_40 : decode cX10_writeTerm 40 = .ok (.invokevirtual 87, 3) := by decide +kernel
theorem dX10_writeTerm_43 : decode cX10_writeTerm 43 = .ok (.goto 112, 3) := by decide +kernel
theorem dX10_writeTerm_155 : decode cX10_writeTerm 155 = .ok (.return_, 1) := by decide +kernel
theorem dX10_writeType_0 : decode cX10_writeType 0 = .ok (.iload_n 3, 1) := by decide +kernel
theorem dX10_writeType_1 : decode cX10_writeType 1 = .ok (.ifCond .gt 4, 3) := by decide +kernel
theorem dX10_writeType_5 : decode cX10_writeType 5 = .ok (.iload_n 2, 1) := by decide +kernel
theorem dX10_writeType_6 : decode cX10_writeType 6 = .ok (.ifCond .ne 12, 3) := by decide +kernel
theorem dX10_writeType_18 : decode cX10_writeType 18 = .ok (.iload_n 2, 1) := by decide +kernel
theorem dX10_writeType_19 : decode cX10_writeType 19 = .ok (.iconst 1, 1) := by decide +kernel
theorem dX10_writeType_20 : decode cX10_writeType 20 = .ok (.if_icmp .ne 12, 3) := by decide +kernel
theorem dX10_writeType_23 : decode cX10_writeType 23 = .ok (.aload_n 0, 1) := by decide +kernel
theorem dX10_writeType_24 : decode cX10_writeType 24 = .ok (.ldc 34, 2) := by decide +kernel
theorem dX10_writeType_26 : decode cX10_writeType 26 = .ok (.invokevirtual 36, 3) := by decide +kernel
theorem dX10_writeType_29 : decode cX10_writeType 29 = .ok (.goto 61, 3) := by decide +kernel
theorem dX10_writeType_90 : decode cX10_writeType 90 = .ok (.return_, 1) := by decide +kernel
theorem dX11_at_0 : decode cX11_at 0 = .ok (.iload_n 1, 1) := by decide +kernel
theorem dX11_at_1 : decode cX11_at 1 = .ok (.ifCond .lt 15, 3) := by decide +kernel
theorem dX11_at_4 : decode cX11_at 4 = .ok (.iload_n 1, 1) := by decide +kernel
theorem dX11_at_5 : decode cX11_at 5 = .ok (.aload_n 0, 1) := by decide +kernel
theorem dX11_at_6 : decode cX11_at 6 = .ok (.arraylength, 1) := by decide +kernel
theorem dX11_at_7 : decode cX11_at 7 = .ok (.if_icmp .ge 9, 3) := by decide +kernel
theorem dX11_at_10 : decode cX11_at 10 = .ok (.aload_n 0, 1) := by decide +kernel
theorem dX11_at_11 : decode cX11_at 11 = .ok (.iload_n 1, 1) := by decide +kernel
theorem dX11_at_12 : decode cX11_at 12 = .ok (.iaload, 1) := by decide +kernel
theorem dX11_at_13 : decode cX11_at 13 = .ok (.goto 4, 3) := by decide +kernel
theorem dX11_at_17 : decode cX11_at 17 = .ok (.ireturn, 1) := by decide +kernel
theorem dX11_cast_0 : decode cX11_cast 0 = .ok (.iload_n 1, 1) := by decide +kernel
theorem dX11_cast_1 : decode cX11_cast 1 = .ok (.ifCond .lt 17, 3) := by decide +kernel
theorem dX11_cast_4 : decode cX11_cast 4 = .ok (.iload_n 1, 1) := by decide +kernel
theorem dX11_cast_5 : decode cX11_cast 5 = .ok (.aload_n 0, 1) := by decide +kernel
theorem dX11_cast_6 : decode cX11_cast 6 = .ok (.getfield 29, 3) := by decide +kernel
theorem dX11_cast_9 : decode cX11_cast 9 = .ok (.getfield 119, 3) := by decide +kernel
theorem dX11_cast_12 : decode cX11_cast 12 = .ok (.getfield 123, 3) := by decide +kernel
theorem dX11_cast_15 : decode cX11_cast 15 = .ok (.if_icmp .lt 7, 3) := by decide +kernel
theorem dX11_cast_18 : decode cX11_cast 18 = .ok (.iconst (-1), 1) := by decide +kernel
theorem dX11_cast_19 : decode cX11_cast 19 = .ok (.goto 12, 3) := by decide +kernel
theorem dX11_cast_31 : decode cX11_cast 31 = .ok (.ireturn, 1) := by decide +kernel
theorem dX11_clear_0 : decode cX11_clear 0 = .ok (.iload_n 1, 1) := by decide +kernel
theorem dX11_clear_1 : decode cX11_clear 1 = .ok (.ifCond .ne 11, 3) := by decide +kernel
theorem dX11_clear_4 : decode cX11_clear 4 = .ok (.aload_n 0, 1) := by decide +kernel
theorem dX11_clear_5 : decode cX11_clear 5 = .ok (.getfield 64, 3) := by decide +kernel
theorem dX11_clear_8 : decode cX11_clear 8 = .ok (.invokevirtual 233, 3) := by decide +kernel
theorem dX11_clear_11 : decode cX11_clear 11 = .ok (.ireturn, 1) := by decide +kernel
theorem dX11_clear_12 : decode cX11_clear 12 = .ok (.iload_n 1, 1) := by decide +kernel
theorem dX11_clear_13 : decode cX11_clear 13 = .ok (.iconst 1, 1) := by decide +kernel
theorem dX11_clear_14 : decode cX11_clear 14 = .ok (.if_icmp .ne 21, 3) := by decide +kernel
theorem dX11_clear_17 : decode cX11_clear 17 = .ok (.aload_n 0, 1) := by decide +kernel
theorem dX11_clear_18 : decode cX11_clear 18 = .ok (.getfield 64, 3) := by decide +kernel
theorem dX11_clear_21 : decode cX11_clear 21 = .ok (.invokevirtual 233, 3) := by decide +kernel
theorem dX11_clear_24 : decode cX11_clear 24 = .ok (.aload_n 0, 1) := by decide +kernel
theorem dX11_clear_25 : decode cX11_clear 25 = .ok (.getfield 64, 3) := by decide +kernel
theorem dX11_clear_28 : decode cX11_clear 28 = .ok (.invokevirtual 236, 3) := by decide +kernel
theorem dX11_clear_31 : decode cX11_clear 31 = .ok (.iadd, 1) := by decide +kernel
theorem dX11_clear_32 : decode cX11_clear 32 = .ok (.goto 4, 3) := by decide +kernel
theorem dX11_clear_35 : decode cX11_clear 35 = .ok (.iconst (-1), 1) := by decide +kernel
theorem dX11_clear_36 : decode cX11_clear 36 = .ok (.ireturn, 1) := by decide +kernel
theorem dX11_coerce_0 : decode cX11_coerce 0 = .ok (.aload_n 0, 1) := by decide +kernel
theorem dX11_coerce_1 : decode cX11_coerce 1 = .ok (.getfield 64, 3) := by decide +kernel
theorem dX11_coerce_4 : decode cX11_coerce 4 = .ok (.iload_n 1, 1) := by decide +kernel
theorem dX11_coerce_5 : decode cX11_coerce 5 = .ok (.iload_n 2, 1) := by decide +kernel
theorem dX11_coerce_6 : decode cX11_coerce 6 = .ok (.invokevirtual 207, 3) := by decide +kernel
theorem dX11_coerce_9 : decode cX11_coerce 9 = .ok (.ifCond .eq 26, 3) := by decide +kernel
theorem dX11_coerce_35 : decode cX11_coerce 35 = .ok (.iconst (-1), 1) := by decide +kernel
theorem dX11_coerce_36 : decode cX11_coerce 36 = .ok (.ireturn, 1) := by decide +kernel
theorem dX11_coercion_0 : decode cX11_coercion 0 = .ok (.aload_n 0, 1) := by decide +kernel
theorem dX11_coercion_1 : decode cX11_coercion 1 = .ok (.getfield 64, 3) := by decide +kernel
theorem dX11_coercion_4 : decode cX11_coercion 4 = .ok (.iload_n 1, 1) := by decide +kernel
theorem dX11_coercion_5 : decode cX11_coercion 5 = .ok (.invokevirtual 223, 3) := by decide +kernel
theorem dX11_coercion_8 : decode cX11_coercion 8 = .ok (.ifCond .eq 15, 3) := by decide +kernel
theorem dX11_coercion_23 : decode cX11_coercion 23 = .ok (.iconst (-1), 1) := by decide +kernel
theorem dX11_coercion_24 : decode cX11_coercion 24 = .ok (.ireturn, 1) := by decide +kernel
theorem dX11_count_0 : decode cX11_count 0 = .ok (.iload_n 1, 1) := by decide +kernel
theorem dX11_count_1 : decode cX11_count 1 = .ok (.tableswitch 129 0 8 #[51, 62, 73, 84, 92, 100, 105, 113, 121], 51) := by decide +kernel
theorem dX11_count_52 : decode cX11_count 52 = .ok (.aload_n 0, 1) := by decide +kernel
theorem dX11_count_53 : decode cX11_count 53 = .ok (.getfield 29, 3) := by decide +kernel
theorem dX11_count_56 : decode cX11_count 56 = .ok (.getfield 103, 3) := by decide +kernel
theorem dX11_count_59 : decode cX11_count 59 = .ok (.getfield 107, 3) := by decide +kernel
theorem dX11_count_62 : decode cX11_count 62 = .ok (.ireturn, 1) := by decide +kernel
theorem dX11_count_63 : decode cX11_count 63 = .ok (.aload_n 0, 1) := by decide +kernel
theorem dX11_count_64 : decode cX11_count 64 = .ok (.getfield 29, 3) := by decide +kernel
theorem dX11_count_67 : decode cX11_count 67 = .ok (.getfield 103, 3) := by decide +kernel
theorem dX11_count_70 : decode cX11_count 70 = .ok (.getfield 116, 3) := by decide +kernel
theorem dX11_count_73 : decode cX11_count 73 = .ok (.ireturn, 1) := by decide +kernel
theorem dX11_count_74 : decode cX11_count 74 = .ok (.aload_n 0, 1) := by decide +kernel
theorem dX11_count_75 : decode cX11_count 75 = .ok (.getfield 29, 3) := by decide +kernel
theorem dX11_count_78 : decode cX11_count 78 = .ok (.getfield 119, 3) := by decide +kernel
theorem dX11_count_81 : decode cX11_count 81 = .ok (.getfield 123, 3) := by decide +kernel
theorem dX11_count_84 : decode cX11_count 84 = .ok (.ireturn, 1) := by decide +kernel
theorem dX11_count_85 : decode cX11_count 85 = .ok (.aload_n 0, 1) := by decide +kernel
theorem dX11_count_86 : decode cX11_count 86 = .ok (.getfield 64, 3) := by decide +kernel
theorem dX11_count_89 : decode cX11_count 89 = .ok (.getfield 128, 3) := by decide +kernel
theorem dX11_count_92 : decode cX11_count 92 = .ok (.ireturn, 1) := by decide +kernel
theorem dX11_count_93 : decode cX11_count 93 = .ok (.aload_n 0, 1) := by decide +kernel
theorem dX11_count_94 : decode cX11_count 94 = .ok (.getfield 64, 3) := by decide +kernel
theorem dX11_count_97 : decode cX11_count 97 = .ok (.getfield 131, 3) := by decide +kernel
theorem dX11_count_100 : decode cX11_count 100 = .ok (.ireturn, 1) := by decide +kernel
theorem dX11_count_101 : decode cX11_count 101 = .ok (.aload_n 0, 1) := by decide +kernel
theorem dX11_count_102 : decode cX11_count 102 = .ok (.getfield 13, 3) := by decide +kernel
theorem dX11_count_105 : decode cX11_count 105 = .ok (.ireturn, 1) := by decide +kernel
theorem dX11_count_106 : decode cX11_count 106 = .ok (.aload_n 0, 1) := by decide +kernel
theorem dX11_count_107 : decode cX11_count 107 = .ok (.getfield 29, 3) := by decide +kernel
theorem dX11_count_110 : decode cX11_count 110 = .ok (.getfield 134, 3) := by decide +kernel
theorem dX11_count_113 : decode cX11_count 113 = .ok (.ireturn, 1) := by decide +kernel
theorem dX11_count_114 : decode cX11_count 114 = .ok (.aload_n 0, 1) := by decide +kernel
theorem dX11_count_115 : decode cX11_count 115 = .ok (.getfield 29, 3) := by decide +kernel
theorem dX11_count_118 : decode cX11_count 118 = .ok (.invokevirtual 137, 3) := by decide +kernel
theorem dX11_count_121 : decode cX11_count 121 = .ok (.ireturn, 1) := by decide +kernel
theorem dX11_count_122 : decode cX11_count 122 = .ok (.aload_n 0, 1) := by decide +kernel
theorem dX11_count_123 : decode cX11_count 123 = .ok (.getfield 29, 3) := by decide +kernel
theorem dX11_count_126 : decode cX11_count 126 = .ok (.invokevirtual 140, 3) := by decide +kernel
theorem dX11_count_129 : decode cX11_count 129 = .ok (.ireturn, 1) := by decide +kernel
theorem dX11_count_130 : decode cX11_count 130 = .ok (.iconst (-1), 1) := by decide +kernel
theorem dX11_count_131 : decode cX11_count 131 = .ok (.ireturn, 1) := by decide +kernel
theorem dX11_feed_0 : decode cX11_feed 0 = .ok (.aload_n 0, 1) := by decide +kernel
theorem dX11_feed_1 : decode cX11_feed 1 = .ok (.getfield 13, 3) := by decide +kernel
theorem dX11_feed_4 : decode cX11_feed 4 = .ok (.bipush 20, 2) := by decide +kernel
theorem dX11_feed_6 : decode cX11_feed 6 = .ok (.iadd, 1) := by decide +kernel
theorem dX11_feed_7 : decode cX11_feed 7 = .ok (.sipush 300, 3) := by decide +kernel
theorem dX11_feed_10 : decode cX11_feed 10 = .ok (.if_icmp .le 5, 3) := by decide +kernel
theorem dX11_feed_15 : decode cX11_feed 15 = .ok (.aload_n 0, 1) := by decide +kernel
theorem dX11_feed_16 : decode cX11_feed 16 = .ok (.iload_n 1, 1) := by decide +kernel
theorem dX11_feed_17 : decode cX11_feed 17 = .ok (.invokevirtual 78, 3) := by decide +kernel
theorem dX11_feed_20 : decode cX11_feed 20 = .ok (.aload_n 0, 1) := by decide +kernel
theorem dX11_feed_21 : decode cX11_feed 21 = .ok (.iload_n 2, 1) := by decide +kernel
theorem dX11_feed_22 : decode cX11_feed 22 = .ok (.invokevirtual 78, 3) := by decide +kernel
theorem dX11_feed_25 : decode cX11_feed 25 = .ok (.aload_n 0, 1) := by decide +kernel
theorem dX11_feed_26 : decode cX11_feed 26 = .ok (.iload_n 3, 1) := by decide +kernel
theorem dX11_feed_27 : decode cX11_feed 27 = .ok (.invokevirtual 78, 3) := by decide +kernel
theorem dX11_feed_30 : decode cX11_feed 30 = .ok (.aload_n 0, 1) := by decide +kernel
theorem dX11_feed_31 : decode cX11_feed 31 = .ok (.iload 4, 2) := by decide +kernel
theorem dX11_feed_33 : decode cX11_feed 33 = .ok (.invokevirtual 78, 3) := by decide +kernel
theorem dX11_feed_36 : decode cX11_feed 36 = .ok (.aload_n 0, 1) := by decide +kernel
theorem dX11_feed_37 : decode cX11_feed 37 = .ok (.iload 5, 2) := by decide +kernel
theorem dX11_feed_39 : decode cX11_feed 39 = .ok (.invokevirtual 78, 3) := by decide +kernel
theorem dX11_feed_42 : decode cX11_feed 42 = .ok (.aload_n 0, 1) := by decide +kernel
theorem dX11_feed_43 : decode cX11_feed 43 = .ok (.getfield 13, 3) := by decide +kernel
theorem dX11_feed_46 : decode cX11_feed 46 = .ok (.ireturn, 1) := by decide +kernel
theorem dX11_init_0 : decode cX11_init 0 = .ok (.aload_n 0, 1) := by decide +kernel
theorem dX11_init_1 : decode cX11_init 1 = .ok (.invokespecial 1, 3) := by decide +kernel
theorem dX11_init_4 : decode cX11_init 4 = .ok (.aload_n 0, 1) := by decide +kernel
theorem dX11_init_5 : decode cX11_init 5 = .ok (.sipush 300, 3) := by decide +kernel
theorem dX11_init_8 : decode cX11_init 8 = .ok (.newarray .int, 2) := by decide +kernel
theorem dX11_init_10 : decode cX11_init 10 = .ok (.putfield 9, 3) := by decide +kernel
theorem dX11_init_13 : decode cX11_init 13 = .ok (.aload_n 0, 1) := by decide +kernel
theorem dX11_init_14 : decode cX11_init 14 = .ok (.iconst 0, 1) := by decide +kernel
theorem dX11_init_15 : decode cX11_init 15 = .ok (.putfield 13, 3) := by decide +kernel
theorem dX11_init_18 : decode cX11_init 18 = .ok (.aload_n 0, 1) := by decide +kernel
theorem dX11_init_19 : decode cX11_init 19 = .ok (.new 17, 3) := by decide +kernel
theorem dX11_init_22 : decode cX11_init 22 = .ok (.dup, 1) := by decide +kernel
theorem dX11_init_23 : decode cX11_init 23 = .ok (.aload_n 0, 1) := by decide +kernel
theorem dX11_init_24 : decode cX11_init 24 = .ok (.getfield 9, 3) := by decide +kernel
theorem dX11_init_27 : decode cX11_init 27 = .ok (.invokespecial 19, 3) := by decide +kernel
theorem dX11_init_30 : decode cX11_init 30 = .ok (.putfield 22, 3) := by decide +kernel
theorem dX11_init_33 : decode cX11_init 33 = .ok (.aload_n 0, 1) := by decide +kernel
theorem dX11_init_34 : decode cX11_init 34 = .ok (.new 26, 3) := by decide +kernel
theorem dX11_init_37 : decode cX11_init 37 = .ok (.dup, 1) := by decide +kernel
theorem dX11_init_38 : decode cX11_init 38 = .ok (.invokespecial 28, 3) := by decide +kernel
theorem dX11_init_41 : decode cX11_init 41 = .ok (.putfield 29, 3) := by decide +kernel
theorem dX11_init_44 : decode cX11_init 44 = .ok (.aload_n 0, 1) := by decide +kernel
theorem dX11_init_45 : decode cX11_init 45 = .ok (.new 26, 3) := by decide +kernel
theorem dX11_init_48 : decode cX11_init 48 = .ok (.dup, 1) := by decide +kernel
theorem dX11_init_49 : decode cX11_init 49 = .ok (.invokespecial 28, 3) := by decide +kernel
theorem dX11_init_52 : decode cX11_init 52 = .ok (.putfield 33, 3) := by decide +kernel
theorem dX11_init_55 : decode cX11_init 55 = .ok (.aload_n 0, 1) := by decide +kernel
theorem dX11_init_56 : decode cX11_init 56 = .ok (.new 36, 3) := by decide +kernel
theorem dX11_init_59 : decode cX11_init 59 = .ok (.dup, 1) := by decide +kernel
theorem dX11_init_60 : decode cX11_init 60 = .ok (.aload_n 0, 1) := by decide +kernel
theorem dX11_init_61 : decode cX11_init 61 = .ok (.getfield 22, 3) := by decide +kernel
theorem dX11_init_64 : decode cX11_init 64 = .ok (.aload_n 0, 1) := by decide +kernel
theorem dX11_init_65 : decode cX11_init 65 = .ok (.getfield 33, 3) := by decide +kernel
theorem dX11_init_68 : decode cX11_init 68 = .ok (.invokespecial 38, 3) := by decide +kernel
theorem dX11_init_71 : decode cX11_init 71 = .ok (.putfield 41, 3) := by decide +kernel
theorem dX11_init_74 : decode cX11_init 74 = .ok (.aload_n 0, 1) := by decide +kernel
theorem dX11_init_75 : decode cX11_init 75 = .ok (.new 45, 3) := by decide +kernel
theorem dX11_init_78 : decode cX11_init 78 = .ok (.dup, 1) := by decide +kernel
theorem dX11_init_79 : decode cX11_init 79 = .ok (.aload_n 0, 1) := by decide +kernel
theorem dX11_init_80 : decode cX11_init 80 = .ok (.getfield 29, 3) := by decide +kernel
theorem dX11_init_83 : decode cX11_init 83 = .ok (.invokespecial 47, 3) := by decide +kernel
theorem dX11_init_86 : decode cX11_init 86 = .ok (.putfield 50, 3) := by decide +kernel
theorem dX11_init_89 : decode cX11_init 89 = .ok (.aload_n 0, 1) := by decide +kernel
theorem dX11_init_90 : decode cX11_init 90 = .ok (.new 54, 3) := by decide +kernel
theorem dX11_init_93 : decode cX11_init 93 = .ok (.dup, 1) := by decide +kernel
theorem dX11_init_94 : decode cX11_init 94 = .ok (.invokespecial 56, 3) := by decide +kernel
theorem dX11_init_97 : decode cX11_init 97 = .ok (.putfield 57, 3) := by decide +kernel
theorem dX11_init_100 : decode cX11_init 100 = .ok (.aload_n 0, 1) := by decide +kernel
theorem dX11_init_101 : decode cX11_init 101 = .ok (.new 61, 3) := by decide +kernel
theorem dX11_init_104 : decode cX11_init 104 = .ok (.dup, 1) := by decide +kernel
theorem dX11_init_105 : decode cX11_init 105 = .ok (.invokespecial 63, 3) := by decide +kernel
theorem dX11_init_108 : decode cX11_init 108 = .ok (.putfield 64, 3) := by decide +kernel
theorem dX11_init_111 : decode cX11_init 111 = .ok (.aload_n 0, 1) := by decide +kernel
theorem dX11_init_112 : decode cX11_init 112 = .ok (.bipush 7, 2) := by decide +kernel
theorem dX11_init_114 : decode cX11_init 114 = .ok (.newarray .int, 2) := by decide +kernel
theorem dX11_init_116 : decode cX11_init 116 = .ok (.putfield 68, 3) := by decide +kernel
theorem dX11_init_119 : decode cX11_init 119 = .ok (.aload_n 0, 1) := by decide +kernel
theorem dX11_init_120 : decode cX11_init 120 = .ok (.bipush 32, 2) := by decide +kernel
theorem dX11_init_122 : decode cX11_init 122 = .ok (.newarray .int, 2) := by decide +kernel
theorem dX11_init_124 : decode cX11_init 124 = .ok (.putfield 71, 3) := by decide +kernel
theorem dX11_init_127 : decode cX11_init 127 = .ok (.aload_n 0, 1) := by decide +kernel
theorem dX11_init_128 : decode cX11_init 128 = .ok (.getfield 29, 3) := by decide +kernel
theorem dX11_init_131 : decode cX11_init 131 = .ok (.invokevirtual 74, 3) := by decide +kernel
theorem dX11_init_134 : decode cX11_init 134 = .ok (.pop, 1) := by decide +kernel
theorem dX11_init_135 : decode cX11_init 135 = .ok (.return_, 1) := by decide +kernel
theorem dX11_isValue_0 : decode cX11_isValue 0 = .ok (.iload_n 0, 1) := by decide +kernel
theorem dX11_isValue_1 : decode cX11_isValue 1 = .ok (.iconst 1, 1) := by decide +kernel
theorem dX11_isValue_2 : decode cX11_isValue 2 = .ok (.if_icmp .lt 12, 3) := by decide +kernel
theorem dX11_isValue_5 : decode cX11_isValue 5 = .ok (.iload_n 0, 1) := by decide +kernel
theorem dX11_isValue_6 : decode cX11_isValue 6 = .ok (.iconst 3, 1) := by decide +kernel
theorem dX11_isValue_7 : decode cX11_isValue 7 = .ok (.if_icmp .gt 7, 3) := by decide +kernel
theorem dX11_isValue_10 : decode cX11_isValue 10 = .ok (.iconst 1, 1) := by decide +kernel
theorem dX11_isValue_11 : decode cX11_isValue 11 = .ok (.goto 4, 3) := by decide +kernel
theorem dX11_isValue_15 : decode cX11_isValue 15 = .ok (.ireturn, 1) := by decide +kernel
theorem dX11_join_0 : decode cX11_join 0 = .ok (.aload_n 0, 1) := by decide +kernel
theorem dX11_join_1 : decode cX11_join 1 = .ok (.getfield 64, 3) := by decide +kernel
theorem dX11_join_4 : decode cX11_join 4 = .ok (.iload_n 1, 1) := by decide +kernel
theorem dX11_join_5 : decode cX11_join 5 = .ok (.iload_n 2, 1) := by decide +kernel
theorem dX11_join_6 : decode cX11_join 6 = .ok (.invokevirtual 207, 3) := by decide +kernel
theorem dX11_join_9 : decode cX11_join 9 = .ok (.ifCond .eq 15, 3) := by decide +kernel
theorem dX11_join_24 : decode cX11_join 24 = .ok (.iconst (-1), 1) := by decide +kernel
theorem dX11_join_25 : decode cX11_join 25 = .ok (.ireturn, 1) := by decide +kernel
theorem dX11_loose_0 : decode cX11_loose 0 = .ok (.iload_n 1, 1) := by decide +kernel
theorem dX11_loose_1 : decode cX11_loose 1 = .ok (.ifCond .lt 17, 3) := by decide +kernel
theorem dX11_loose_4 : decode cX11_loose 4 = .ok (.iload_n 1, 1) := by decide +kernel
theorem dX11_loose_5 : decode cX11_loose 5 = .ok (.aload_n 0, 1) := by decide +kernel
theorem dX11_loose_6 : decode cX11_loose 6 = .ok (.getfield 29, 3) := by decide +kernel
theorem dX11_loose_9 : decode cX11_loose 9 = .ok (.getfield 103, 3) := by decide +kernel
theorem dX11_loose_12 : decode cX11_loose 12 = .ok (.getfield 116, 3) := by decide +kernel
theorem dX11_loose_15 : decode cX11_loose 15 = .ok (.if_icmp .lt 5, 3) := by decide +kernel
theorem dX11_loose_18 : decode cX11_loose 18 = .ok (.iconst (-1), 1) := by decide +kernel
theorem dX11_loose_19 : decode cX11_loose 19 = .ok (.ireturn, 1) := by decide +kernel
theorem dX11_meet_0 : decode cX11_meet 0 = .ok (.aload_n 0, 1) := by decide +kernel
theorem dX11_meet_1 : decode cX11_meet 1 = .ok (.getfield 64, 3) := by decide +kernel
theorem dX11_meet_4 : decode cX11_meet 4 = .ok (.iload_n 1, 1) := by decide +kernel
theorem dX11_meet_5 : decode cX11_meet 5 = .ok (.iload_n 2, 1) := by decide +kernel
theorem dX11_meet_6 : decode cX11_meet 6 = .ok (.invokevirtual 207, 3) := by decide +kernel
theorem dX11_meet_9 : decode cX11_meet 9 = .ok (.ifCond .eq 15, 3) := by decide +kernel
theorem dX11_meet_24 : decode cX11_meet 24 = .ok (.iconst (-1), 1) := by decide +kernel
theorem dX11_meet_25 : decode cX11_meet 25 = .ok (.ireturn, 1) := by decide +kernel
theorem dX11_node_0 : decode cX11_node 0 = .ok (.iload_n 1, 1) := by decide +kernel
theorem dX11_node_1 : decode cX11_node 1 = .ok (.ifCond .lt 17, 3) := by decide +kernel
theorem dX11_node_4 : decode cX11_node 4 = .ok (.iload_n 1, 1) := by decide +kernel
theorem dX11_node_5 : decode cX11_node 5 = .ok (.aload_n 0, 1) := by decide +kernel
theorem dX11_node_6 : decode cX11_node 6 = .ok (.getfield 29, 3) := by decide +kernel
theorem dX11_node_9 : decode cX11_node 9 = .ok (.getfield 103, 3) := by decide +kernel
theorem dX11_node_12 : decode cX11_node 12 = .ok (.getfield 107, 3) := by decide +kernel
theorem dX11_node_15 : decode cX11_node 15 = .ok (.if_icmp .lt 7, 3) := by decide +kernel
theorem dX11_node_18 : decode cX11_node 18 = .ok (.iconst (-1), 1) := by decide +kernel
theorem dX11_node_19 : decode cX11_node 19 = .ok (.goto 12, 3) := by decide +kernel
theorem dX11_node_22 : decode cX11_node 22 = .ok (.aload_n 0, 1) := by decide +kernel
theorem dX11_node_23 : decode cX11_node 23 = .ok (.getfield 29, 3) := by decide +kernel
theorem dX11_node_26 : decode cX11_node 26 = .ok (.iload_n 1, 1) := by decide +kernel
theorem dX11_node_27 : decode cX11_node 27 = .ok (.iload_n 2, 1) := by decide +kernel
theorem dX11_node_28 : decode cX11_node 28 = .ok (.invokevirtual 143, 3) := by decide +kernel
theorem dX11_node_31 : decode cX11_node 31 = .ok (.ireturn, 1) := by decide +kernel
theorem dX11_pair_0 : decode cX11_pair 0 = .ok (.aload_n 0, 1) := by decide +kernel
theorem dX11_pair_1 : decode cX11_pair 1 = .ok (.getfield 64, 3) := by decide +kernel
theorem dX11_pair_4 : decode cX11_pair 4 = .ok (.iload_n 1, 1) := by decide +kernel
theorem dX11_pair_5 : decode cX11_pair 5 = .ok (.iload_n 2, 1) := by decide +kernel
theorem dX11_pair_6 : decode cX11_pair 6 = .ok (.invokevirtual 207, 3) := by decide +kernel
theorem dX11_pair_9 : decode cX11_pair 9 = .ok (.ifCond .eq 16, 3) := by decide +kernel
theorem dX11_pair_25 : decode cX11_pair 25 = .ok (.iconst (-1), 1) := by decide +kernel
theorem dX11_pair_26 : decode cX11_pair 26 = .ok (.ireturn, 1) := by decide +kernel
theorem dX11_program_0 : decode cX11_program 0 = .ok (.iload_n 1, 1) := by decide +kernel
theorem dX11_program_1 : decode cX11_program 1 = .ok (.iconst 1, 1) := by decide +kernel
theorem dX11_program_2 : decode cX11_program 2 = .ok (.if_icmp .lt 18, 3) := by decide +kernel
theorem dX11_program_5 : decode cX11_program 5 = .ok (.iload_n 1, 1) := by decide +kernel
theorem dX11_program_6 : decode cX11_program 6 = .ok (.sipush 240, 3) := by decide +kernel
theorem dX11_program_9 : decode cX11_program 9 = .ok (.if_icmp .gt 11, 3) := by decide +kernel
theorem dX11_program_12 : decode cX11_program 12 = .ok (.iload_n 1, 1) := by decide +kernel
theorem dX11_program_13 : decode cX11_program 13 = .ok (.aload_n 0, 1) := by decide +kernel
theorem dX11_program_14 : decode cX11_program 14 = .ok (.getfield 13, 3) := by decide +kernel
theorem dX11_program_17 : decode cX11_program 17 = .ok (.if_icmp .le 5, 3) := by decide +kernel
theorem dX11_program_20 : decode cX11_program 20 = .ok (.iconst (-1), 1) := by decide +kernel
theorem dX11_program_21 : decode cX11_program 21 = .ok (.ireturn, 1) := by decide +kernel
theorem dX11_put_0 : decode cX11_put 0 = .ok (.iload_n 1, 1) := by decide +kernel
theorem dX11_put_1 : decode cX11_put 1 = .ok (.ifCond .lt 13, 3) := by decide +kernel
theorem dX11_put_4 : decode cX11_put 4 = .ok (.iload_n 1, 1) := by decide +kernel
theorem dX11_put_5 : decode cX11_put 5 = .ok (.aload_n 0, 1) := by decide +kernel
theorem dX11_put_6 : decode cX11_put 6 = .ok (.arraylength, 1) := by decide +kernel
theorem dX11_put_7 : decode cX11_put 7 = .ok (.if_icmp .ge 7, 3) := by decide +kernel
theorem dX11_put_10 : decode cX11_put 10 = .ok (.aload_n 0, 1) := by decide +kernel
theorem dX11_put_11 : decode cX11_put 11 = .ok (.iload_n 1, 1) := by decide +kernel
theorem dX11_put_12 : decode cX11_put 12 = .ok (.iload_n 2, 1) := by decide +kernel
theorem dX11_put_13 : decode cX11_put 13 = .ok (.iastore, 1) := by decide +kernel
theorem dX11_put_14 : decode cX11_put 14 = .ok (.return_, 1) := by decide +kernel
theorem dX11_run_0 : decode cX11_run 0 = .ok (.iload_n 1, 1) := by decide +kernel
theorem dX11_run_1 : decode cX11_run 1 = .ok (.ifCond .lt 18, 3) := by decide +kernel
theorem dX11_run_4 : decode cX11_run 4 = .ok (.iload_n 1, 1) := by decide +kernel
theorem dX11_run_5 : decode cX11_run 5 = .ok (.iconst 2, 1) := by decide +kernel
theorem dX11_run_6 : decode cX11_run 6 = .ok (.if_icmp .gt 13, 3) := by decide +kernel
theorem dX11_run_9 : decode cX11_run 9 = .ok (.iload_n 2, 1) := by decide +kernel
theorem dX11_run_10 : decode cX11_run 10 = .ok (.ifCond .lt 9, 3) := by decide +kernel
theorem dX11_run_13 : decode cX11_run 13 = .ok (.iload_n 2, 1) := by decide +kernel
theorem dX11_run_14 : decode cX11_run 14 = .ok (.bipush 8, 2) := by decide +kernel
theorem dX11_run_16 : decode cX11_run 16 = .ok (.if_icmp .le 6, 3) := by decide +kernel
theorem dX11_run_19 : decode cX11_run 19 = .ok (.ldc 239, 2) := by decide +kernel
theorem dX11_run_21 : decode cX11_run 21 = .ok (.ireturn, 1) := by decide +kernel
theorem dX11_run_22 : decode cX11_run 22 = .ok (.aload_n 0, 1) := by decide +kernel
theorem dX11_run_23 : decode cX11_run 23 = .ok (.getfield 50, 3) := by decide +kernel
theorem dX11_run_26 : decode cX11_run 26 = .ok (.iload_n 1, 1) := by decide +kernel
theorem dX11_run_27 : decode cX11_run 27 = .ok (.sipush 1500, 3) := by decide +kernel
theorem dX11_run_30 : decode cX11_run 30 = .ok (.invokevirtual 240, 3) := by decide +kernel
theorem dX11_run_33 : decode cX11_run 33 = .ok (.aload_n 0, 1) := by decide +kernel
theorem dX11_run_34 : decode cX11_run 34 = .ok (.getfield 50, 3) := by decide +kernel
theorem dX11_run_37 : decode cX11_run 37 = .ok (.iload_n 2, 1) := by decide +kernel
theorem dX11_run_38 : decode cX11_run 38 = .ok (.invokevirtual 244, 3) := by decide +kernel
theorem dX11_run_41 : decode cX11_run 41 = .ok (.ireturn, 1) := by decide +kernel
theorem dX11_sets_0 : decode cX11_sets 0 = .ok (.iload_n 1, 1) := by decide +kernel
theorem dX11_sets_1 : decode cX11_sets 1 = .ok (.ifCond .lt 9, 3) := by decide +kernel
theorem dX11_sets_4 : decode cX11_sets 4 = .ok (.iload_n 1, 1) := by decide +kernel
theorem dX11_sets_5 : decode cX11_sets 5 = .ok (.bipush 6, 2) := by decide +kernel
theorem dX11_sets_7 : decode cX11_sets 7 = .ok (.if_icmp .le 5, 3) := by decide +kernel
theorem dX11_sets_10 : decode cX11_sets 10 = .ok (.iconst (-1), 1) := by decide +kernel
theorem dX11_sets_11 : decode cX11_sets 11 = .ok (.ireturn, 1) := by decide +kernel
theorem dX11_sets_12 : decode cX11_sets 12 = .ok (.aload_n 0, 1) := by decide +kernel
theorem dX11_sets_13 : decode cX11_sets 13 = .ok (.getfield 68, 3) := by decide +kernel
theorem dX11_sets_16 : decode cX11_sets 16 = .ok (.iconst 0, 1) := by decide +kernel
theorem dX11_sets_17 : decode cX11_sets 17 = .ok (.invokestatic 262, 3) := by decide +kernel
theorem dX11_sets_20 : decode cX11_sets 20 = .ok (.aload_n 0, 1) := by decide +kernel
theorem dX11_sets_21 : decode cX11_sets 21 = .ok (.getfield 29, 3) := by decide +kernel
theorem dX11_sets_24 : decode cX11_sets 24 = .ok (.getfield 134, 3) := by decide +kernel
theorem dX11_sets_27 : decode cX11_sets 27 = .ok (.istore_n 2, 1) := by decide +kernel
theorem dX11_sets_28 : decode cX11_sets 28 = .ok (.iconst 1, 1) := by decide +kernel
theorem dX11_sets_29 : decode cX11_sets 29 = .ok (.iconst 4, 1) := by decide +kernel
theorem dX11_sets_30 : decode cX11_sets 30 = .ok (.aload_n 0, 1) := by decide +kernel
theorem dX11_sets_31 : decode cX11_sets 31 = .ok (.getfield 29, 3) := by decide +kernel
theorem dX11_sets_34 : decode cX11_sets 34 = .ok (.getfield 103, 3) := by decide +kernel
theorem dX11_sets_37 : decode cX11_sets 37 = .ok (.getfield 116, 3) := by decide +kernel
theorem dX11_sets_40 : decode cX11_sets 40 = .ok (.invokestatic 268, 3) := by decide +kernel
theorem dX11_sets_43 : decode cX11_sets 43 = .ok (.ishl, 1) := by decide +kernel
theorem dX11_sets_44 : decode cX11_sets 44 = .ok (.istore_n 3, 1) := by decide +kernel
theorem dX11_sets_45 : decode cX11_sets 45 = .ok (.iconst 0, 1) := by decide +kernel
theorem dX11_sets_46 : decode cX11_sets 46 = .ok (.istore 4, 2) := by decide +kernel
theorem dX11_sets_48 : decode cX11_sets 48 = .ok (.iload 4, 2) := by decide +kernel
theorem dX11_sets_50 : decode cX11_sets 50 = .ok (.iload_n 3, 1) := by decide +kernel
theorem dX11_sets_51 : decode cX11_sets 51 = .ok (.if_icmp .ge 54, 3) := by decide +kernel
theorem dX11_sets_54 : decode cX11_sets 54 = .ok (.aload_n 0, 1) := by decide +kernel
theorem dX11_sets_55 : decode cX11_sets 55 = .ok (.getfield 29, 3) := by decide +kernel
theorem dX11_sets_58 : decode cX11_sets 58 = .ok (.iload 4, 2) := by decide +kernel
theorem dX11_sets_60 : decode cX11_sets 60 = .ok (.putfield 134, 3) := by decide +kernel
theorem dX11_sets_63 : decode cX11_sets 63 = .ok (.aload_n 0, 1) := by decide +kernel
theorem dX11_sets_64 : decode cX11_sets 64 = .ok (.getfield 29, 3) := by decide +kernel
theorem dX11_sets_67 : decode cX11_sets 67 = .ok (.invokevirtual 74, 3) := by decide +kernel
theorem dX11_sets_70 : decode cX11_sets 70 = .ok (.iconst (-1), 1) := by decide +kernel
theorem dX11_sets_71 : decode cX11_sets 71 = .ok (.if_icmp .ne 28, 3) := by decide +kernel
theorem dX11_sets_74 : decode cX11_sets 74 = .ok (.aload_n 0, 1) := by decide +kernel
theorem dX11_sets_75 : decode cX11_sets 75 = .ok (.getfield 50, 3) := by decide +kernel
theorem dX11_sets_78 : decode cX11_sets 78 = .ok (.aload_n 0, 1) := by decide +kernel
theorem dX11_sets_79 : decode cX11_sets 79 = .ok (.getfield 29, 3) := by decide +kernel
theorem dX11_sets_82 : decode cX11_sets 82 = .ok (.invokevirtual 100, 3) := by decide +kernel
theorem dX11_sets_85 : decode cX11_sets 85 = .ok (.aload_n 0, 1) := by decide +kernel
theorem dX11_sets_86 : decode cX11_sets 86 = .ok (.getfield 50, 3) := by decide +kernel
theorem dX11_sets_89 : decode cX11_sets 89 = .ok (.iconst 0, 1) := by decide +kernel
theorem dX11_sets_90 : decode cX11_sets 90 = .ok (.bipush 100, 2) := by decide +kernel
theorem dX11_sets_92 : decode cX11_sets 92 = .ok (.invokevirtual 240, 3) := by decide +kernel
theorem dX11_sets_95 : decode cX11_sets 95 = .ok (.aload_n 0, 1) := by decide +kernel
theorem dX11_sets_96 : decode cX11_sets 96 = .ok (.invokevirtual 273, 3) := by decide +kernel
theorem dX11_sets_99 : decode cX11_sets 99 = .ok (.iinc 4 1, 3) := by decide +kernel
theorem dX11_sets_102 : decode cX11_sets 102 = .ok (.goto (-54), 3) := by decide +kernel
theorem dX11_sets_105 : decode cX11_sets 105 = .ok (.aload_n 0, 1) := by decide +kernel
theorem dX11_sets_106 : decode cX11_sets 106 = .ok (.getfield 29, 3) := by decide +kernel
theorem dX11_sets_109 : decode cX11_sets 109 = .ok (.iload_n 2, 1) := by decide +kernel
theorem dX11_sets_110 : decode cX11_sets 110 = .ok (.putfield 134, 3) := by decide +kernel
theorem dX11_sets_113 : decode cX11_sets 113 = .ok (.aload_n 0, 1) := by decide +kernel
theorem dX11_sets_114 : decode cX11_sets 114 = .ok (.getfield 29, 3) := by decide +kernel
theorem dX11_sets_117 : decode cX11_sets 117 = .ok (.invokevirtual 74, 3) := by decide +kernel
theorem dX11_sets_120 : decode cX11_sets 120 = .ok (.pop, 1) := by decide +kernel
theorem dX11_sets_121 : decode cX11_sets 121 = .ok (.aload_n 0, 1) := by decide +kernel
theorem dX11_sets_122 : decode cX11_sets 122 = .ok (.getfield 50, 3) := by decide +kernel
theorem dX11_sets_125 : decode cX11_sets 125 = .ok (.aload_n 0, 1) := by decide +kernel
theorem dX11_sets_126 : decode cX11_sets 126 = .ok (.getfield 29, 3) := by decide +kernel
theorem dX11_sets_129 : decode cX11_sets 129 = .ok (.invokevirtual 100, 3) := by decide +kernel
theorem dX11_sets_132 : decode cX11_sets 132 = .ok (.aload_n 0, 1) := by decide +kernel
theorem dX11_sets_133 : decode cX11_sets 133 = .ok (.getfield 68, 3) := by decide +kernel
theorem dX11_sets_136 : decode cX11_sets 136 = .ok (.iload_n 1, 1) := by decide +kernel
theorem dX11_sets_137 : decode cX11_sets 137 = .ok (.invokestatic 178, 3) := by decide +kernel
theorem dX11_sets_140 : decode cX11_sets 140 = .ok (.ireturn, 1) := by decide +kernel
theorem dX11_takeFour_0 : decode cX11_takeFour 0 = .ok (.bipush 24, 2) := by decide +kernel
theorem dX11_takeFour_2 : decode cX11_takeFour 2 = .ok (.istore_n 2, 1) := by decide +kernel
theorem dX11_takeFour_3 : decode cX11_takeFour 3 = .ok (.iload_n 2, 1) := by decide +kernel
theorem dX11_takeFour_4 : decode cX11_takeFour 4 = .ok (.ifCond .lt 37, 3) := by decide +kernel
theorem dX11_takeFour_7 : decode cX11_takeFour 7 = .ok (.aload_n 0, 1) := by decide +kernel
theorem dX11_takeFour_8 : decode cX11_takeFour 8 = .ok (.getfield 9, 3) := by decide +kernel
theorem dX11_takeFour_11 : decode cX11_takeFour 11 = .ok (.aload_n 0, 1) := by decide +kernel
theorem dX11_takeFour_12 : decode cX11_takeFour 12 = .ok (.getfield 13, 3) := by decide +kernel
theorem dX11_takeFour_15 : decode cX11_takeFour 15 = .ok (.iload_n 1, 1) := by decide +kernel
theorem dX11_takeFour_16 : decode cX11_takeFour 16 = .ok (.iload_n 2, 1) := by decide +kernel
theorem dX11_takeFour_17 : decode cX11_takeFour 17 = .ok (.iushr, 1) := by decide +kernel
theorem dX11_takeFour_18 : decode cX11_takeFour 18 = .ok (.sipush 255, 3) := by decide +kernel
theorem dX11_takeFour_21 : decode cX11_takeFour 21 = .ok (.iand, 1) := by decide +kernel
theorem dX11_takeFour_22 : decode cX11_takeFour 22 = .ok (.invokestatic 82, 3) := by decide +kernel
theorem dX11_takeFour_25 : decode cX11_takeFour 25 = .ok (.aload_n 0, 1) := by decide +kernel
theorem dX11_takeFour_26 : decode cX11_takeFour 26 = .ok (.dup, 1) := by decide +kernel
theorem dX11_takeFour_27 : decode cX11_takeFour 27 = .ok (.getfield 13, 3) := by decide +kernel
theorem dX11_takeFour_30 : decode cX11_takeFour 30 = .ok (.iconst 1, 1) := by decide +kernel
theorem dX11_takeFour_31 : decode cX11_takeFour 31 = .ok (.iadd, 1) := by decide +kernel
theorem dX11_takeFour_32 : decode cX11_takeFour 32 = .ok (.putfield 13, 3) := by decide +kernel
theorem dX11_takeFour_35 : decode cX11_takeFour 35 = .ok (.iinc 2 (-8), 3) := by decide +kernel
theorem dX11_takeFour_38 : decode cX11_takeFour 38 = .ok (.goto (-35), 3) := by decide +kernel
theorem dX11_takeFour_41 : decode cX11_takeFour 41 = .ok (.return_, 1) := by decide +kernel
theorem dX11_tallyRun_0 : decode cX11_tallyRun 0 = .ok (.aload_n 0, 1) := by decide +kernel
theorem dX11_tallyRun_1 : decode cX11_tallyRun 1 = .ok (.getfield 29, 3) := by decide +kernel
theorem dX11_tallyRun_4 : decode cX11_tallyRun 4 = .ok (.getfield 119, 3) := by decide +kernel
theorem dX11_tallyRun_7 : decode cX11_tallyRun 7 = .ok (.getfield 123, 3) := by decide +kernel
theorem dX11_tallyRun_10 : decode cX11_tallyRun 10 = .ok (.istore_n 1, 1) := by decide +kernel
theorem dX11_tallyRun_11 : decode cX11_tallyRun 11 = .ok (.aload_n 0, 1) := by decide +kernel
theorem dX11_tallyRun_12 : decode cX11_tallyRun 12 = .ok (.getfield 50, 3) := by decide +kernel
theorem dX11_tallyRun_15 : decode cX11_tallyRun 15 = .ok (.invokevirtual 250, 3) := by decide +kernel
theorem dX11_tallyRun_18 : decode cX11_tallyRun 18 = .ok (.istore_n 2, 1) := by decide +kernel
theorem dX11_tallyRun_19 : decode cX11_tallyRun 19 = .ok (.aload_n 0, 1) := by decide +kernel
theorem dX11_tallyRun_20 : decode cX11_tallyRun 20 = .ok (.getfield 68, 3) := by decide +kernel
theorem dX11_tallyRun_23 : decode cX11_tallyRun 23 = .ok (.iconst 5, 1) := by decide +kernel
theorem dX11_tallyRun_24 : decode cX11_tallyRun 24 = .ok (.aload_n 0, 1) := by decide +kernel
theorem dX11_tallyRun_25 : decode cX11_tallyRun 25 = .ok (.getfield 68, 3) := by decide +kernel
theorem dX11_tallyRun_28 : decode cX11_tallyRun 28 = .ok (.iconst 0, 1) := by decide +kernel
theorem dX11_tallyRun_29 : decode cX11_tallyRun 29 = .ok (.invokestatic 178, 3) := by decide +kernel
theorem dX11_tallyRun_32 : decode cX11_tallyRun 32 = .ok (.ifCond .ne 7, 3) := by decide +kernel
theorem dX11_tallyRun_35 : decode cX11_tallyRun 35 = .ok (.iload_n 1, 1) := by decide +kernel
theorem dX11_tallyRun_36 : decode cX11_tallyRun 36 = .ok (.goto 15, 3) := by decide +kernel
theorem dX11_tallyRun_51 : decode cX11_tallyRun 51 = .ok (.invokestatic 82, 3) := by decide +kernel
theorem dX11_tallyRun_54 : decode cX11_tallyRun 54 = .ok (.aload_n 0, 1) := by decide +kernel
theorem dX11_tallyRun_55 : decode cX11_tallyRun 55 = .ok (.getfield 68, 3) := by decide +kernel
theorem dX11_tallyRun_58 : decode cX11_tallyRun 58 = .ok (.bipush 6, 2) := by decide +kernel
theorem dX11_tallyRun_60 : decode cX11_tallyRun 60 = .ok (.iload_n 1, 1) := by decide +kernel
theorem dX11_tallyRun_61 : decode cX11_tallyRun 61 = .ok (.aload_n 0, 1) := by decide +kernel
theorem dX11_tallyRun_62 : decode cX11_tallyRun 62 = .ok (.getfield 68, 3) := by decide +kernel
theorem dX11_tallyRun_65 : decode cX11_tallyRun 65 = .ok (.bipush 6, 2) := by decide +kernel
theorem dX11_tallyRun_67 : decode cX11_tallyRun 67 = .ok (.invokestatic 178, 3) := by decide +kernel
theorem dX11_tallyRun_70 : decode cX11_tallyRun 70 = .ok (.invokestatic 276, 3) := by decide +kernel
theorem dX11_tallyRun_73 : decode cX11_tallyRun 73 = .ok (.invokestatic 82, 3) := by decide +kernel
theorem dX11_tallyRun_76 : decode cX11_tallyRun 76 = .ok (.aload_n 0, 1) := by decide +kernel
theorem dX11_tallyRun_77 : decode cX11_tallyRun 77 = .ok (.getfield 68, 3) := by decide +kernel
theorem dX11_tallyRun_80 : decode cX11_tallyRun 80 = .ok (.iconst 0, 1) := by decide +kernel
theorem dX11_tallyRun_81 : decode cX11_tallyRun 81 = .ok (.aload_n 0, 1) := by decide +kernel
theorem dX11_tallyRun_82 : decode cX11_tallyRun 82 = .ok (.getfield 68, 3) := by decide +kernel
theorem dX11_tallyRun_85 : decode cX11_tallyRun 85 = .ok (.iconst 0, 1) := by decide +kernel
theorem dX11_tallyRun_86 : decode cX11_tallyRun 86 = .ok (.invokestatic 178, 3) := by decide +kernel
theorem dX11_tallyRun_89 : decode cX11_tallyRun 89 = .ok (.iconst 1, 1) := by decide +kernel
theorem dX11_tallyRun_90 : decode cX11_tallyRun 90 = .ok (.iadd, 1) := by decide +kernel
theorem dX11_tallyRun_91 : decode cX11_tallyRun 91 = .ok (.invokestatic 82, 3) := by decide +kernel
theorem dX11_tallyRun_94 : decode cX11_tallyRun 94 = .ok (.iload_n 2, 1) := by decide +kernel
theorem dX11_tallyRun_95 : decode cX11_tallyRun 95 = .ok (.invokestatic 259, 3) := by decide +kernel
theorem dX11_tallyRun_98 : decode cX11_tallyRun 98 = .ok (.ifCond .eq 36, 3) := by decide +kernel
theorem dX11_tallyRun_101 : decode cX11_tallyRun 101 = .ok (.aload_n 0, 1) := by decide +kernel
theorem dX11_tallyRun_102 : decode cX11_tallyRun 102 = .ok (.getfield 68, 3) := by decide +kernel
theorem dX11_tallyRun_105 : decode cX11_tallyRun 105 = .ok (.iconst 1, 1) := by decide +kernel
theorem dX11_tallyRun_106 : decode cX11_tallyRun 106 = .ok (.aload_n 0, 1) := by decide +kernel
theorem dX11_tallyRun_107 : decode cX11_tallyRun 107 = .ok (.getfield 68, 3) := by decide +kernel
theorem dX11_tallyRun_110 : decode cX11_tallyRun 110 = .ok (.iconst 1, 1) := by decide +kernel
theorem dX11_tallyRun_111 : decode cX11_tallyRun 111 = .ok (.invokestatic 178, 3) := by decide +kernel
theorem dX11_tallyRun_114 : decode cX11_tallyRun 114 = .ok (.iconst 1, 1) := by decide +kernel
theorem dX11_tallyRun_115 : decode cX11_tallyRun 115 = .ok (.iadd, 1) := by decide +kernel
theorem dX11_tallyRun_116 : decode cX11_tallyRun 116 = .ok (.invokestatic 82, 3) := by decide +kernel
theorem dX11_tallyRun_119 : decode cX11_tallyRun 119 = .ok (.aload_n 0, 1) := by decide +kernel
theorem dX11_tallyRun_120 : decode cX11_tallyRun 120 = .ok (.iload_n 2, 1) := by decide +kernel
theorem dX11_tallyRun_121 : decode cX11_tallyRun 121 = .ok (.aload_n 0, 1) := by decide +kernel
theorem dX11_tallyRun_122 : decode cX11_tallyRun 122 = .ok (.getfield 50, 3) := by decide +kernel
theorem dX11_tallyRun_125 : decode cX11_tallyRun 125 = .ok (.invokevirtual 253, 3) := by decide +kernel
theorem dX11_tallyRun_128 : decode cX11_tallyRun 128 = .ok (.invokevirtual 279, 3) := by decide +kernel
theorem dX11_tallyRun_131 : decode cX11_tallyRun 131 = .ok (.goto 47, 3) := by decide +kernel
theorem dX11_tallyRun_178 : decode cX11_tallyRun 178 = .ok (.return_, 1) := by decide +kernel
theorem dX11_tallyValue_0 : decode cX11_tallyValue 0 = .ok (.aload_n 0, 1) := by decide +kernel
