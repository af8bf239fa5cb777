theorem DJx00060_init_a7421_0 : fo_dl cJx00060_init_a7421 [(0, .aload_n 0, 1), (1, .aload_n 1, 1), (2, .invokespecial 7, 3), (5, .return_, 1)] := by decide +kernel
theorem dJx00060_init_a7421_0 : decode cJx00060_init_a7421 0 = .ok (.aload_n 0, 1) := fo_dd DJx00060_init_a7421_0 0 rfl
theorem dJx00060_init_a7421_1 : decode cJx00060_init_a7421 1 = .ok (.aload_n 1, 1) := fo_dd DJx00060_init_a7421_0 1 rfl
theorem dJx00060_init_a7421_2 : decode cJx00060_init_a7421 2 = .ok (.invokespecial 7, 3) := fo_dd DJx00060_init_a7421_0 2 rfl
theorem dJx00060_init_a7421_5 : decode cJx00060_init_a7421 5 = .ok (.return_, 1) := fo_dd DJx00060_init_a7421_0 3 rfl
theorem DJxe99ae_isNaN_b9ae7_0 : fo_dl cJxe99ae_isNaN_b9ae7 [(0, .dload_n 0, 1), (1, .dload_n 0, 1), (2, .dcmp .l, 1), (3, .ifCond .eq 7, 3), (6, .iconst 1, 1), (7, .goto 4, 3), (10, .iconst 0, 1), (11, .ireturn, 1)] := by decide +kernel
theorem dJxe99ae_isNaN_b9ae7_0 : decode cJxe99ae_isNaN_b9ae7 0 = .ok (.dload_n 0, 1) := fo_dd DJxe99ae_isNaN_b9ae7_0 0 rfl
theorem dJxe99ae_isNaN_b9ae7_1 : decode cJxe99ae_isNaN_b9ae7 1 = .ok (.dload_n 0, 1) := fo_dd DJxe99ae_isNaN_b9ae7_0 1 rfl
theorem dJxe99ae_isNaN_b9ae7_2 : decode cJxe99ae_isNaN_b9ae7 2 = .ok (.dcmp .l, 1) := fo_dd DJxe99ae_isNaN_b9ae7_0 2 rfl
theorem dJxe99ae_isNaN_b9ae7_3 : decode cJxe99ae_isNaN_b9ae7 3 = .ok (.ifCond .eq 7, 3) := fo_dd DJxe99ae_isNaN_b9ae7_0 3 rfl
theorem dJxe99ae_isNaN_b9ae7_6 : decode cJxe99ae_isNaN_b9ae7 6 = .ok (.iconst 1, 1) := fo_dd DJxe99ae_isNaN_b9ae7_0 4 rfl
theorem dJxe99ae_isNaN_b9ae7_7 : decode cJxe99ae_isNaN_b9ae7 7 = .ok (.goto 4, 3) := fo_dd DJxe99ae_isNaN_b9ae7_0 5 rfl
theorem dJxe99ae_isNaN_b9ae7_10 : decode cJxe99ae_isNaN_b9ae7 10 = .ok (.iconst 0, 1) := fo_dd DJxe99ae_isNaN_b9ae7_0 6 rfl
theorem dJxe99ae_isNaN_b9ae7_11 : decode cJxe99ae_isNaN_b9ae7 11 = .ok (.ireturn, 1) := fo_dd DJxe99ae_isNaN_b9ae7_0 7 rfl
theorem DJxe99ae_doubleToLongBits_ccdee_0 : fo_dl cJxe99ae_doubleToLongBits_ccdee [(0, .dload_n 0, 1), (1, .invokestatic 122, 3), (4, .ifCond .ne 8, 3), (7, .dload_n 0, 1), (8, .invokestatic 134, 3), (11, .lreturn, 1), (12, .ldc2_w 137, 3), (15, .lreturn, 1)] := by decide +kernel
theorem dJxe99ae_doubleToLongBits_ccdee_0 : decode cJxe99ae_doubleToLongBits_ccdee 0 = .ok (.dload_n 0, 1) := fo_dd DJxe99ae_doubleToLongBits_ccdee_0 0 rfl
theorem dJxe99ae_doubleToLongBits_ccdee_1 : decode cJxe99ae_doubleToLongBits_ccdee 1 = .ok (.invokestatic 122, 3) := fo_dd DJxe99ae_doubleToLongBits_ccdee_0 1 rfl
theorem dJxe99ae_doubleToLongBits_ccdee_4 : decode cJxe99ae_doubleToLongBits_ccdee 4 = .ok (.ifCond .ne 8, 3) := fo_dd DJxe99ae_doubleToLongBits_ccdee_0 2 rfl
theorem dJxe99ae_doubleToLongBits_ccdee_7 : decode cJxe99ae_doubleToLongBits_ccdee 7 = .ok (.dload_n 0, 1) := fo_dd DJxe99ae_doubleToLongBits_ccdee_0 3 rfl
theorem dJxe99ae_doubleToLongBits_ccdee_8 : decode cJxe99ae_doubleToLongBits_ccdee 8 = .ok (.invokestatic 134, 3) := fo_dd DJxe99ae_doubleToLongBits_ccdee_0 4 rfl
theorem dJxe99ae_doubleToLongBits_ccdee_11 : decode cJxe99ae_doubleToLongBits_ccdee 11 = .ok (.lreturn, 1) := fo_dd DJxe99ae_doubleToLongBits_ccdee_0 5 rfl
theorem dJxe99ae_doubleToLongBits_ccdee_12 : decode cJxe99ae_doubleToLongBits_ccdee 12 = .ok (.ldc2_w 137, 3) := fo_dd DJxe99ae_doubleToLongBits_ccdee_0 6 rfl
theorem dJxe99ae_doubleToLongBits_ccdee_15 : decode cJxe99ae_doubleToLongBits_ccdee 15 = .ok (.lreturn, 1) := fo_dd DJxe99ae_doubleToLongBits_ccdee_0 7 rfl
theorem DJ9_abs_0f7a4_0 : fo_dl cJ9_abs_0f7a4 [(0, .iload_n 0, 1), (1, .ifCond .ge 8, 3), (4, .iload_n 0, 1), (5, .ineg, 1), (6, .goto 4, 3), (9, .iload_n 0, 1), (10, .ireturn, 1)] := by decide +kernel
theorem dJ9_abs_0f7a4_0 : decode cJ9_abs_0f7a4 0 = .ok (.iload_n 0, 1) := fo_dd DJ9_abs_0f7a4_0 0 rfl
theorem dJ9_abs_0f7a4_1 : decode cJ9_abs_0f7a4 1 = .ok (.ifCond .ge 8, 3) := fo_dd DJ9_abs_0f7a4_0 1 rfl
theorem dJ9_abs_0f7a4_4 : decode cJ9_abs_0f7a4 4 = .ok (.iload_n 0, 1) := fo_dd DJ9_abs_0f7a4_0 2 rfl
theorem dJ9_abs_0f7a4_5 : decode cJ9_abs_0f7a4 5 = .ok (.ineg, 1) := fo_dd DJ9_abs_0f7a4_0 3 rfl
theorem dJ9_abs_0f7a4_6 : decode cJ9_abs_0f7a4 6 = .ok (.goto 4, 3) := fo_dd DJ9_abs_0f7a4_0 4 rfl
theorem dJ9_abs_0f7a4_9 : decode cJ9_abs_0f7a4 9 = .ok (.iload_n 0, 1) := fo_dd DJ9_abs_0f7a4_0 5 rfl
theorem dJ9_abs_0f7a4_10 : decode cJ9_abs_0f7a4 10 = .ok (.ireturn, 1) := fo_dd DJ9_abs_0f7a4_0 6 rfl
theorem DJ9_max_7cf53_0 : fo_dl cJ9_max_7cf53 [(0, .iload_n 0, 1), (1, .iload_n 1, 1), (2, .if_icmp .lt 7, 3), (5, .iload_n 0, 1), (6, .goto 4, 3), (9, .iload_n 1, 1), (10, .ireturn, 1)] := by decide +kernel
theorem dJ9_max_7cf53_0 : decode cJ9_max_7cf53 0 = .ok (.iload_n 0, 1) := fo_dd DJ9_max_7cf53_0 0 rfl
theorem dJ9_max_7cf53_1 : decode cJ9_max_7cf53 1 = .ok (.iload_n 1, 1) := fo_dd DJ9_max_7cf53_0 1 rfl
theorem dJ9_max_7cf53_2 : decode cJ9_max_7cf53 2 = .ok (.if_icmp .lt 7, 3) := fo_dd DJ9_max_7cf53_0 2 rfl
theorem dJ9_max_7cf53_5 : decode cJ9_max_7cf53 5 = .ok (.iload_n 0, 1) := fo_dd DJ9_max_7cf53_0 3 rfl
theorem dJ9_max_7cf53_6 : decode cJ9_max_7cf53 6 = .ok (.goto 4, 3) := fo_dd DJ9_max_7cf53_0 4 rfl
theorem dJ9_max_7cf53_9 : decode cJ9_max_7cf53 9 = .ok (.iload_n 1, 1) := fo_dd DJ9_max_7cf53_0 5 rfl
theorem dJ9_max_7cf53_10 : decode cJ9_max_7cf53 10 = .ok (.ireturn, 1) := fo_dd DJ9_max_7cf53_0 6 rfl
theorem DJ9_min_7cf53_0 : fo_dl cJ9_min_7cf53 [(0, .iload_n 0, 1), (1, .iload_n 1, 1), (2, .if_icmp .gt 7, 3), (5, .iload_n 0, 1), (6, .goto 4, 3), (9, .iload_n 1, 1), (10, .ireturn, 1)] := by decide +kernel
theorem dJ9_min_7cf53_0 : decode cJ9_min_7cf53 0 = .ok (.iload_n 0, 1) := fo_dd DJ9_min_7cf53_0 0 rfl
theorem dJ9_min_7cf53_1 : decode cJ9_min_7cf53 1 = .ok (.iload_n 1, 1) := fo_dd DJ9_min_7cf53_0 1 rfl
theorem dJ9_min_7cf53_2 : decode cJ9_min_7cf53 2 = .ok (.if_icmp .gt 7, 3) := fo_dd DJ9_min_7cf53_0 2 rfl
theorem dJ9_min_7cf53_5 : decode cJ9_min_7cf53 5 = .ok (.iload_n 0, 1) := fo_dd DJ9_min_7cf53_0 3 rfl
theorem dJ9_min_7cf53_6 : decode cJ9_min_7cf53 6 = .ok (.goto 4, 3) := fo_dd DJ9_min_7cf53_0 4 rfl
theorem dJ9_min_7cf53_9 : decode cJ9_min_7cf53 9 = .ok (.iload_n 1, 1) := fo_dd DJ9_min_7cf53_0 5 rfl
theorem dJ9_min_7cf53_10 : decode cJ9_min_7cf53 10 = .ok (.ireturn, 1) := fo_dd DJ9_min_7cf53_0 6 rfl
theorem DJ0_length_8abf5_0 : fo_dl cJ0_length_8abf5 [(0, .aload_n 0, 1), (1, .getfield 9, 3), (4, .arraylength, 1), (5, .aload_n 0, 1), (6, .invokevirtual 335, 3), (9, .ishr, 1), (10, .ireturn, 1)] := by decide +kernel
theorem dJ0_length_8abf5_0 : decode cJ0_length_8abf5 0 = .ok (.aload_n 0, 1) := fo_dd DJ0_length_8abf5_0 0 rfl
theorem dJ0_length_8abf5_1 : decode cJ0_length_8abf5 1 = .ok (.getfield 9, 3) := fo_dd DJ0_length_8abf5_0 1 rfl
theorem dJ0_length_8abf5_4 : decode cJ0_length_8abf5 4 = .ok (.arraylength, 1) := fo_dd DJ0_length_8abf5_0 2 rfl
theorem dJ0_length_8abf5_5 : decode cJ0_length_8abf5 5 = .ok (.aload_n 0, 1) := fo_dd DJ0_length_8abf5_0 3 rfl
theorem dJ0_length_8abf5_6 : decode cJ0_length_8abf5 6 = .ok (.invokevirtual 335, 3) := fo_dd DJ0_length_8abf5_0 4 rfl
theorem dJ0_length_8abf5_9 : decode cJ0_length_8abf5 9 = .ok (.ishr, 1) := fo_dd DJ0_length_8abf5_0 5 rfl
theorem dJ0_length_8abf5_10 : decode cJ0_length_8abf5 10 = .ok (.ireturn, 1) := fo_dd DJ0_length_8abf5_0 6 rfl
theorem DJ0_charAt_5068e_0 : fo_dl cJ0_charAt_5068e [(0, .aload_n 0, 1), (1, .invokevirtual 492, 3), (4, .ifCond .eq 12, 3), (7, .aload_n 0, 1), (8, .getfield 9, 3), (11, .iload_n 1, 1), (12, .invokestatic 495, 3), (15, .ireturn, 1), (16, .aload_n 0, 1), (17, .getfield 9, 3), (20, .iload_n 1, 1), (21, .invokestatic 498, 3), (24, .ireturn, 1)] := by decide +kernel
theorem dJ0_charAt_5068e_0 : decode cJ0_charAt_5068e 0 = .ok (.aload_n 0, 1) := fo_dd DJ0_charAt_5068e_0 0 rfl
theorem dJ0_charAt_5068e_1 : decode cJ0_charAt_5068e 1 = .ok (.invokevirtual 492, 3) := fo_dd DJ0_charAt_5068e_0 1 rfl
theorem dJ0_charAt_5068e_4 : decode cJ0_charAt_5068e 4 = .ok (.ifCond .eq 12, 3) := fo_dd DJ0_charAt_5068e_0 2 rfl
theorem dJ0_charAt_5068e_7 : decode cJ0_charAt_5068e 7 = .ok (.aload_n 0, 1) := fo_dd DJ0_charAt_5068e_0 3 rfl
theorem dJ0_charAt_5068e_8 : decode cJ0_charAt_5068e 8 = .ok (.getfield 9, 3) := fo_dd DJ0_charAt_5068e_0 4 rfl
theorem dJ0_charAt_5068e_11 : decode cJ0_charAt_5068e 11 = .ok (.iload_n 1, 1) := fo_dd DJ0_charAt_5068e_0 5 rfl
theorem dJ0_charAt_5068e_12 : decode cJ0_charAt_5068e 12 = .ok (.invokestatic 495, 3) := fo_dd DJ0_charAt_5068e_0 6 rfl
theorem dJ0_charAt_5068e_15 : decode cJ0_charAt_5068e 15 = .ok (.ireturn, 1) := fo_dd DJ0_charAt_5068e_0 7 rfl
theorem dJ0_charAt_5068e_16 : decode cJ0_charAt_5068e 16 = .ok (.aload_n 0, 1) := fo_dd DJ0_charAt_5068e_0 8 rfl
theorem dJ0_charAt_5068e_17 : decode cJ0_charAt_5068e 17 = .ok (.getfield 9, 3) := fo_dd DJ0_charAt_5068e_0 9 rfl
theorem dJ0_charAt_5068e_20 : decode cJ0_charAt_5068e 20 = .ok (.iload_n 1, 1) := fo_dd DJ0_charAt_5068e_0 10 rfl
theorem dJ0_charAt_5068e_21 : decode cJ0_charAt_5068e 21 = .ok (.invokestatic 498, 3) := fo_dd DJ0_charAt_5068e_0 11 rfl
theorem dJ0_charAt_5068e_24 : decode cJ0_charAt_5068e 24 = .ok (.ireturn, 1) := fo_dd DJ0_charAt_5068e_0 12 rfl
theorem DJ0_coder_7d493_0 : fo_dl cJ0_coder_7d493 [(0, .getstatic 38, 3), (3, .ifCond .eq 10, 3), (6, .aload_n 0, 1), (7, .getfield 15, 3), (10, .goto 4, 3), (13, .iconst 1, 1), (14, .ireturn, 1)] := by decide +kernel
theorem dJ0_coder_7d493_0 : decode cJ0_coder_7d493 0 = .ok (.getstatic 38, 3) := fo_dd DJ0_coder_7d493_0 0 rfl
theorem dJ0_coder_7d493_3 : decode cJ0_coder_7d493 3 = .ok (.ifCond .eq 10, 3) := fo_dd DJ0_coder_7d493_0 1 rfl
theorem dJ0_coder_7d493_6 : decode cJ0_coder_7d493 6 = .ok (.aload_n 0, 1) := fo_dd DJ0_coder_7d493_0 2 rfl
theorem dJ0_coder_7d493_7 : decode cJ0_coder_7d493 7 = .ok (.getfield 15, 3) := fo_dd DJ0_coder_7d493_0 3 rfl
theorem dJ0_coder_7d493_10 : decode cJ0_coder_7d493 10 = .ok (.goto 4, 3) := fo_dd DJ0_coder_7d493_0 4 rfl
theorem dJ0_coder_7d493_13 : decode cJ0_coder_7d493 13 = .ok (.iconst 1, 1) := fo_dd DJ0_coder_7d493_0 5 rfl
theorem dJ0_coder_7d493_14 : decode cJ0_coder_7d493 14 = .ok (.ireturn, 1) := fo_dd DJ0_coder_7d493_0 6 rfl
theorem DJ0_isLatin1_aae02_0 : fo_dl cJ0_isLatin1_aae02 [(0, .getstatic 38, 3), (3, .ifCond .eq 14, 3), (6, .aload_n 0, 1), (7, .getfield 15, 3), (10, .ifCond .ne 7, 3), (13, .iconst 1, 1), (14, .goto 4, 3), (17, .iconst 0, 1), (18, .ireturn, 1)] := by decide +kernel
theorem dJ0_isLatin1_aae02_0 : decode cJ0_isLatin1_aae02 0 = .ok (.getstatic 38, 3) := fo_dd DJ0_isLatin1_aae02_0 0 rfl
theorem dJ0_isLatin1_aae02_3 : decode cJ0_isLatin1_aae02 3 = .ok (.ifCond .eq 14, 3) := fo_dd DJ0_isLatin1_aae02_0 1 rfl
theorem dJ0_isLatin1_aae02_6 : decode cJ0_isLatin1_aae02 6 = .ok (.aload_n 0, 1) := fo_dd DJ0_isLatin1_aae02_0 2 rfl
theorem dJ0_isLatin1_aae02_7 : decode cJ0_isLatin1_aae02 7 = .ok (.getfield 15, 3) := fo_dd DJ0_isLatin1_aae02_0 3 rfl
theorem dJ0_isLatin1_aae02_10 : decode cJ0_isLatin1_aae02 10 = .ok (.ifCond .ne 7, 3) := fo_dd DJ0_isLatin1_aae02_0 4 rfl
theorem dJ0_isLatin1_aae02_13 : decode cJ0_isLatin1_aae02 13 = .ok (.iconst 1, 1) := fo_dd DJ0_isLatin1_aae02_0 5 rfl
theorem dJ0_isLatin1_aae02_14 : decode cJ0_isLatin1_aae02 14 = .ok (.goto 4, 3) := fo_dd DJ0_isLatin1_aae02_0 6 rfl
theorem dJ0_isLatin1_aae02_17 : decode cJ0_isLatin1_aae02 17 = .ok (.iconst 0, 1) := fo_dd DJ0_isLatin1_aae02_0 7 rfl
theorem dJ0_isLatin1_aae02_18 : decode cJ0_isLatin1_aae02 18 = .ok (.ireturn, 1) := fo_dd DJ0_isLatin1_aae02_0 8 rfl
theorem DJ0_checkIndex_df160_0 : fo_dl cJ0_checkIndex_df160 [(0, .iload_n 0, 1), (1, .iload_n 1, 1), (2, .getstatic 1053, 3), (5, .invokestatic 1059, 3), (8, .pop, 1), (9, .return_, 1)] := by decide +kernel
theorem dJ0_checkIndex_df160_0 : decode cJ0_checkIndex_df160 0 = .ok (.iload_n 0, 1) := fo_dd DJ0_checkIndex_df160_0 0 rfl
theorem dJ0_checkIndex_df160_1 : decode cJ0_checkIndex_df160 1 = .ok (.iload_n 1, 1) := fo_dd DJ0_checkIndex_df160_0 1 rfl
theorem dJ0_checkIndex_df160_2 : decode cJ0_checkIndex_df160 2 = .ok (.getstatic 1053, 3) := fo_dd DJ0_checkIndex_df160_0 2 rfl
theorem dJ0_checkIndex_df160_5 : decode cJ0_checkIndex_df160 5 = .ok (.invokestatic 1059, 3) := fo_dd DJ0_checkIndex_df160_0 3 rfl
theorem dJ0_checkIndex_df160_8 : decode cJ0_checkIndex_df160 8 = .ok (.pop, 1) := fo_dd DJ0_checkIndex_df160_0 4 rfl
theorem dJ0_checkIndex_df160_9 : decode cJ0_checkIndex_df160 9 = .ok (.return_, 1) := fo_dd DJ0_checkIndex_df160_0 5 rfl
theorem DJ1_charAt_3b067_0 : fo_dl cJ1_charAt_3b067 [(0, .iload_n 1, 1), (1, .aload_n 0, 1), (2, .arraylength, 1), (3, .invokestatic 9, 3), (6, .aload_n 0, 1), (7, .iload_n 1, 1), (8, .baload, 1), (9, .sipush 255, 3), (12, .iand, 1), (13, .i2c, 1), (14, .ireturn, 1)] := by decide +kernel
theorem dJ1_charAt_3b067_0 : decode cJ1_charAt_3b067 0 = .ok (.iload_n 1, 1) := fo_dd DJ1_charAt_3b067_0 0 rfl
theorem dJ1_charAt_3b067_1 : decode cJ1_charAt_3b067 1 = .ok (.aload_n 0, 1) := fo_dd DJ1_charAt_3b067_0 1 rfl
theorem dJ1_charAt_3b067_2 : decode cJ1_charAt_3b067 2 = .ok (.arraylength, 1) := fo_dd DJ1_charAt_3b067_0 2 rfl
theorem dJ1_charAt_3b067_3 : decode cJ1_charAt_3b067 3 = .ok (.invokestatic 9, 3) := fo_dd DJ1_charAt_3b067_0 3 rfl
theorem dJ1_charAt_3b067_6 : decode cJ1_charAt_3b067 6 = .ok (.aload_n 0, 1) := fo_dd DJ1_charAt_3b067_0 4 rfl
theorem dJ1_charAt_3b067_7 : decode cJ1_charAt_3b067 7 = .ok (.iload_n 1, 1) := fo_dd DJ1_charAt_3b067_0 5 rfl
theorem dJ1_charAt_3b067_8 : decode cJ1_charAt_3b067 8 = .ok (.baload, 1) := fo_dd DJ1_charAt_3b067_0 6 rfl
theorem dJ1_charAt_3b067_9 : decode cJ1_charAt_3b067 9 = .ok (.sipush 255, 3) := fo_dd DJ1_charAt_3b067_0 7 rfl
theorem dJ1_charAt_3b067_12 : decode cJ1_charAt_3b067 12 = .ok (.iand, 1) := fo_dd DJ1_charAt_3b067_0 8 rfl
theorem dJ1_charAt_3b067_13 : decode cJ1_charAt_3b067 13 = .ok (.i2c, 1) := fo_dd DJ1_charAt_3b067_0 9 rfl
theorem dJ1_charAt_3b067_14 : decode cJ1_charAt_3b067 14 = .ok (.ireturn, 1) := fo_dd DJ1_charAt_3b067_0 10 rfl
theorem DJ2_getChar_3b067_0 : fo_dl cJ2_getChar_3b067 [(0, .getstatic 44, 3), (3, .ifCond .ne 25, 3), (6, .iload_n 1, 1), (7, .ifCond .lt 11, 3), (10, .iload_n 1, 1), (11, .aload_n 0, 1), (12, .invokestatic 48, 3), (15, .if_icmp .lt 13, 3), (18, .new 52, 3), (21, .dup, 1), (22, .ldc 54, 2), (24, .invokespecial 56, 3), (27, .athrow, 1), (28, .iload_n 1, 1), (29, .iconst 1, 1), (30, .ishl, 1), (31, .istore_n 1, 1), (32, .aload_n 0, 1), (33, .iload_n 1, 1), (34, .iinc 1 1, 3), (37, .baload, 1), (38, .sipush 255, 3), (41, .iand, 1), (42, .getstatic 59, 3), (45, .ishl, 1), (46, .aload_n 0, 1), (47, .iload_n 1, 1), (48, .baload, 1), (49, .sipush 255, 3), (52, .iand, 1), (53, .getstatic 63, 3), (56, .ishl, 1), (57, .ior, 1), (58, .i2c, 1), (59, .ireturn, 1)] := by decide +kernel
theorem dJ2_getChar_3b067_0 : decode cJ2_getChar_3b067 0 = .ok (.getstatic 44, 3) := fo_dd DJ2_getChar_3b067_0 0 rfl
theorem dJ2_getChar_3b067_3 : decode cJ2_getChar_3b067 3 = .ok (.ifCond .ne 25, 3) := fo_dd DJ2_getChar_3b067_0 1 rfl
theorem dJ2_getChar_3b067_6 : decode cJ2_getChar_3b067 6 = .ok (.iload_n 1, 1) := fo_dd DJ2_getChar_3b067_0 2 rfl
theorem dJ2_getChar_3b067_7 : decode cJ2_getChar_3b067 7 = .ok (.ifCond .lt 11, 3) := fo_dd DJ2_getChar_3b067_0 3 rfl
theorem dJ2_getChar_3b067_10 : decode cJ2_getChar_3b067 10 = .ok (.iload_n 1, 1) := fo_dd DJ2_getChar_3b067_0 4 rfl
theorem dJ2_getChar_3b067_11 : decode cJ2_getChar_3b067 11 = .ok (.aload_n 0, 1) := fo_dd DJ2_getChar_3b067_0 5 rfl
theorem dJ2_getChar_3b067_12 : decode cJ2_getChar_3b067 12 = .ok (.invokestatic 48, 3) := fo_dd DJ2_getChar_3b067_0 6 rfl
theorem dJ2_getChar_3b067_15 : decode cJ2_getChar_3b067 15 = .ok (.if_icmp .lt 13, 3) := fo_dd DJ2_getChar_3b067_0 7 rfl
theorem dJ2_getChar_3b067_18 : decode cJ2_getChar_3b067 18 = .ok (.new 52, 3) := fo_dd DJ2_getChar_3b067_0 8 rfl
theorem dJ2_getChar_3b067_21 : decode cJ2_getChar_3b067 21 = .ok (.dup, 1) := fo_dd DJ2_getChar_3b067_0 9 rfl
theorem dJ2_getChar_3b067_22 : decode cJ2_getChar_3b067 22 = .ok (.ldc 54, 2) := fo_dd DJ2_getChar_3b067_0 10 rfl
theorem dJ2_getChar_3b067_24 : decode cJ2_getChar_3b067 24 = .ok (.invokespecial 56, 3) := fo_dd DJ2_getChar_3b067_0 11 rfl
theorem dJ2_getChar_3b067_27 : decode cJ2_getChar_3b067 27 = .ok (.athrow, 1) := fo_dd DJ2_getChar_3b067_0 12 rfl
theorem dJ2_getChar_3b067_28 : decode cJ2_getChar_3b067 28 = .ok (.iload_n 1, 1) := fo_dd DJ2_getChar_3b067_0 13 rfl
theorem dJ2_getChar_3b067_29 : decode cJ2_getChar_3b067 29 = .ok (.iconst 1, 1) := fo_dd DJ2_getChar_3b067_0 14 rfl
theorem dJ2_getChar_3b067_30 : decode cJ2_getChar_3b067 30 = .ok (.ishl, 1) := fo_dd DJ2_getChar_3b067_0 15 rfl
theorem dJ2_getChar_3b067_31 : decode cJ2_getChar_3b067 31 = .ok (.istore_n 1, 1) := fo_dd DJ2_getChar_3b067_0 16 rfl
theorem dJ2_getChar_3b067_32 : decode cJ2_getChar_3b067 32 = .ok (.aload_n 0, 1) := fo_dd DJ2_getChar_3b067_0 17 rfl
theorem dJ2_getChar_3b067_33 : decode cJ2_getChar_3b067 33 = .ok (.iload_n 1, 1) := fo_dd DJ2_getChar_3b067_0 18 rfl
theorem dJ2_getChar_3b067_34 : decode cJ2_getChar_3b067 34 = .ok (.iinc 1 1, 3) := fo_dd DJ2_getChar_3b067_0 19 rfl
theorem dJ2_getChar_3b067_37 : decode cJ2_getChar_3b067 37 = .ok (.baload, 1) := fo_dd DJ2_getChar_3b067_0 20 rfl
theorem dJ2_getChar_3b067_38 : decode cJ2_getChar_3b067 38 = .ok (.sipush 255, 3) := fo_dd DJ2_getChar_3b067_0 21 rfl
theorem dJ2_getChar_3b067_41 : decode cJ2_getChar_3b067 41 = .ok (.iand, 1) := fo_dd DJ2_getChar_3b067_0 22 rfl
theorem dJ2_getChar_3b067_42 : decode cJ2_getChar_3b067 42 = .ok (.getstatic 59, 3) := fo_dd DJ2_getChar_3b067_0 23 rfl
theorem dJ2_getChar_3b067_45 : decode cJ2_getChar_3b067 45 = .ok (.ishl, 1) := fo_dd DJ2_getChar_3b067_0 24 rfl
theorem dJ2_getChar_3b067_46 : decode cJ2_getChar_3b067 46 = .ok (.aload_n 0, 1) := fo_dd DJ2_getChar_3b067_0 25 rfl
theorem dJ2_getChar_3b067_47 : decode cJ2_getChar_3b067 47 = .ok (.iload_n 1, 1) := fo_dd DJ2_getChar_3b067_0 26 rfl
theorem dJ2_getChar_3b067_48 : decode cJ2_getChar_3b067 48 = .ok (.baload, 1) := fo_dd DJ2_getChar_3b067_0 27 rfl
theorem dJ2_getChar_3b067_49 : decode cJ2_getChar_3b067 49 = .ok (.sipush 255, 3) := fo_dd DJ2_getChar_3b067_0 28 rfl
theorem dJ2_getChar_3b067_52 : decode cJ2_getChar_3b067 52 = .ok (.iand, 1) := fo_dd DJ2_getChar_3b067_0 29 rfl
theorem dJ2_getChar_3b067_53 : decode cJ2_getChar_3b067 53 = .ok (.getstatic 63, 3) := fo_dd DJ2_getChar_3b067_0 30 rfl
theorem dJ2_getChar_3b067_56 : decode cJ2_getChar_3b067 56 = .ok (.ishl, 1) := fo_dd DJ2_getChar_3b067_0 31 rfl
theorem dJ2_getChar_3b067_57 : decode cJ2_getChar_3b067 57 = .ok (.ior, 1) := fo_dd DJ2_getChar_3b067_0 32 rfl
theorem dJ2_getChar_3b067_58 : decode cJ2_getChar_3b067 58 = .ok (.i2c, 1) := fo_dd DJ2_getChar_3b067_0 33 rfl
theorem dJ2_getChar_3b067_59 : decode cJ2_getChar_3b067 59 = .ok (.ireturn, 1) := fo_dd DJ2_getChar_3b067_0 34 rfl
theorem DJ2_length_9d52b_0 : fo_dl cJ2_length_9d52b [(0, .aload_n 0, 1), (1, .arraylength, 1), (2, .iconst 1, 1), (3, .ishr, 1), (4, .ireturn, 1)] := by decide +kernel
theorem dJ2_length_9d52b_0 : decode cJ2_length_9d52b 0 = .ok (.aload_n 0, 1) := fo_dd DJ2_length_9d52b_0 0 rfl
theorem dJ2_length_9d52b_1 : decode cJ2_length_9d52b 1 = .ok (.arraylength, 1) := fo_dd DJ2_length_9d52b_0 1 rfl
theorem dJ2_length_9d52b_2 : decode cJ2_length_9d52b 2 = .ok (.iconst 1, 1) := fo_dd DJ2_length_9d52b_0 2 rfl
theorem dJ2_length_9d52b_3 : decode cJ2_length_9d52b 3 = .ok (.ishr, 1) := fo_dd DJ2_length_9d52b_0 3 rfl
theorem dJ2_length_9d52b_4 : decode cJ2_length_9d52b 4 = .ok (.ireturn, 1) := fo_dd DJ2_length_9d52b_0 4 rfl
theorem DJ2_charAt_3b067_0 : fo_dl cJ2_charAt_3b067 [(0, .iload_n 1, 1), (1, .aload_n 0, 1), (2, .invokestatic 67, 3), (5, .aload_n 0, 1), (6, .iload_n 1, 1), (7, .invokestatic 71, 3), (10, .ireturn, 1)] := by decide +kernel
theorem dJ2_charAt_3b067_0 : decode cJ2_charAt_3b067 0 = .ok (.iload_n 1, 1) := fo_dd DJ2_charAt_3b067_0 0 rfl
theorem dJ2_charAt_3b067_1 : decode cJ2_charAt_3b067 1 = .ok (.aload_n 0, 1) := fo_dd DJ2_charAt_3b067_0 1 rfl
theorem dJ2_charAt_3b067_2 : decode cJ2_charAt_3b067 2 = .ok (.invokestatic 67, 3) := fo_dd DJ2_charAt_3b067_0 2 rfl
theorem dJ2_charAt_3b067_5 : decode cJ2_charAt_3b067 5 = .ok (.aload_n 0, 1) := fo_dd DJ2_charAt_3b067_0 3 rfl
theorem dJ2_charAt_3b067_6 : decode cJ2_charAt_3b067 6 = .ok (.iload_n 1, 1) := fo_dd DJ2_charAt_3b067_0 4 rfl
theorem dJ2_charAt_3b067_7 : decode cJ2_charAt_3b067 7 = .ok (.invokestatic 71, 3) := fo_dd DJ2_charAt_3b067_0 5 rfl
theorem dJ2_charAt_3b067_10 : decode cJ2_charAt_3b067 10 = .ok (.ireturn, 1) := fo_dd DJ2_charAt_3b067_0 6 rfl
theorem DJ2_checkIndex_2214a_0 : fo_dl cJ2_checkIndex_2214a [(0, .iload_n 0, 1), (1, .aload_n 1, 1), (2, .invokestatic 48, 3), (5, .invokestatic 414, 3), (8, .return_, 1)] := by decide +kernel
theorem dJ2_checkIndex_2214a_0 : decode cJ2_checkIndex_2214a 0 = .ok (.iload_n 0, 1) := fo_dd DJ2_checkIndex_2214a_0 0 rfl
theorem dJ2_checkIndex_2214a_1 : decode cJ2_checkIndex_2214a 1 = .ok (.aload_n 1, 1) := fo_dd DJ2_checkIndex_2214a_0 1 rfl
theorem dJ2_checkIndex_2214a_2 : decode cJ2_checkIndex_2214a 2 = .ok (.invokestatic 48, 3) := fo_dd DJ2_checkIndex_2214a_0 2 rfl
theorem dJ2_checkIndex_2214a_5 : decode cJ2_checkIndex_2214a 5 = .ok (.invokestatic 414, 3) := fo_dd DJ2_checkIndex_2214a_0 3 rfl
theorem dJ2_checkIndex_2214a_8 : decode cJ2_checkIndex_2214a 8 = .ok (.return_, 1) := fo_dd DJ2_checkIndex_2214a_0 4 rfl
theorem DJ3_checkIndex_8e157_0 : fo_dl cJ3_checkIndex_8e157 [(0, .iload_n 0, 1), (1, .ifCond .lt 8, 3), (4, .iload_n 0, 1), (5, .iload_n 1, 1), (6, .if_icmp .lt 10, 3), (9, .aload_n 2, 1), (10, .iload_n 0, 1), (11, .iload_n 1, 1), (12, .invokestatic 95, 3), (15, .athrow, 1), (16, .iload_n 0, 1), (17, .ireturn, 1)] := by decide +kernel
theorem dJ3_checkIndex_8e157_0 : decode cJ3_checkIndex_8e157 0 = .ok (.iload_n 0, 1) := fo_dd DJ3_checkIndex_8e157_0 0 rfl
theorem dJ3_checkIndex_8e157_1 : decode cJ3_checkIndex_8e157 1 = .ok (.ifCond .lt 8, 3) := fo_dd DJ3_checkIndex_8e157_0 1 rfl
theorem dJ3_checkIndex_8e157_4 : decode cJ3_checkIndex_8e157 4 = .ok (.iload_n 0, 1) := fo_dd DJ3_checkIndex_8e157_0 2 rfl
theorem dJ3_checkIndex_8e157_5 : decode cJ3_checkIndex_8e157 5 = .ok (.iload_n 1, 1) := fo_dd DJ3_checkIndex_8e157_0 3 rfl
theorem dJ3_checkIndex_8e157_6 : decode cJ3_checkIndex_8e157 6 = .ok (.if_icmp .lt 10, 3) := fo_dd DJ3_checkIndex_8e157_0 4 rfl
theorem dJ3_checkIndex_8e157_9 : decode cJ3_checkIndex_8e157 9 = .ok (.aload_n 2, 1) := fo_dd DJ3_checkIndex_8e157_0 5 rfl
theorem dJ3_checkIndex_8e157_10 : decode cJ3_checkIndex_8e157 10 = .ok (.iload_n 0, 1) := fo_dd DJ3_checkIndex_8e157_0 6 rfl
theorem dJ3_checkIndex_8e157_11 : decode cJ3_checkIndex_8e157 11 = .ok (.iload_n 1, 1) := fo_dd DJ3_checkIndex_8e157_0 7 rfl
theorem dJ3_checkIndex_8e157_12 : decode cJ3_checkIndex_8e157 12 = .ok (.invokestatic 95, 3) := fo_dd DJ3_checkIndex_8e157_0 8 rfl
theorem dJ3_checkIndex_8e157_15 : decode cJ3_checkIndex_8e157 15 = .ok (.athrow, 1) := fo_dd DJ3_checkIndex_8e157_0 9 rfl
theorem dJ3_checkIndex_8e157_16 : decode cJ3_checkIndex_8e157 16 = .ok (.iload_n 0, 1) := fo_dd DJ3_checkIndex_8e157_0 10 rfl
theorem dJ3_checkIndex_8e157_17 : decode cJ3_checkIndex_8e157 17 = .ok (.ireturn, 1) := fo_dd DJ3_checkIndex_8e157_0 11 rfl
theorem DL_addProphet_0 : fo_dl cL_addProphet [(0, .aload_n 3, 1), (1, .iconst 0, 1), (2, .aload_n 0, 1), (3, .iload_n 1, 1), (4, .iload_n 2, 1), (5, .invokevirtual 7, 3), (8, .i2l, 1), (9, .lastore, 1), (10, .goto 11, 3), (13, .astore 4, 2), (15, .iconst 1, 1), (16, .ireturn, 1), (17, .astore 4, 2), (19, .iconst 2, 1), (20, .ireturn, 1), (21, .iconst 0, 1), (22, .ireturn, 1)] := by decide +kernel
theorem dL_addProphet_0 : decode cL_addProphet 0 = .ok (.aload_n 3, 1) := fo_dd DL_addProphet_0 0 rfl
theorem dL_addProphet_1 : decode cL_addProphet 1 = .ok (.iconst 0, 1) := fo_dd DL_addProphet_0 1 rfl
theorem dL_addProphet_2 : decode cL_addProphet 2 = .ok (.aload_n 0, 1) := fo_dd DL_addProphet_0 2 rfl
theorem dL_addProphet_3 : decode cL_addProphet 3 = .ok (.iload_n 1, 1) := fo_dd DL_addProphet_0 3 rfl
theorem dL_addProphet_4 : decode cL_addProphet 4 = .ok (.iload_n 2, 1) := fo_dd DL_addProphet_0 4 rfl
theorem dL_addProphet_5 : decode cL_addProphet 5 = .ok (.invokevirtual 7, 3) := fo_dd DL_addProphet_0 5 rfl
theorem dL_addProphet_8 : decode cL_addProphet 8 = .ok (.i2l, 1) := fo_dd DL_addProphet_0 6 rfl
theorem dL_addProphet_9 : decode cL_addProphet 9 = .ok (.lastore, 1) := fo_dd DL_addProphet_0 7 rfl
theorem dL_addProphet_10 : decode cL_addProphet 10 = .ok (.goto 11, 3) := fo_dd DL_addProphet_0 8 rfl
theorem dL_addProphet_13 : decode cL_addProphet 13 = .ok (.astore 4, 2) := fo_dd DL_addProphet_0 9 rfl
theorem dL_addProphet_15 : decode cL_addProphet 15 = .ok (.iconst 1, 1) := fo_dd DL_addProphet_0 10 rfl
theorem dL_addProphet_16 : decode cL_addProphet 16 = .ok (.ireturn, 1) := fo_dd DL_addProphet_0 11 rfl
theorem dL_addProphet_17 : decode cL_addProphet 17 = .ok (.astore 4, 2) := fo_dd DL_addProphet_0 12 rfl
theorem dL_addProphet_19 : decode cL_addProphet 19 = .ok (.iconst 2, 1) := fo_dd DL_addProphet_0 13 rfl
theorem dL_addProphet_20 : decode cL_addProphet 20 = .ok (.ireturn, 1) := fo_dd DL_addProphet_0 14 rfl
theorem dL_addProphet_21 : decode cL_addProphet 21 = .ok (.iconst 0, 1) := fo_dd DL_addProphet_0 15 rfl
theorem dL_addProphet_22 : decode cL_addProphet 22 = .ok (.ireturn, 1) := fo_dd DL_addProphet_0 16 rfl
theorem DL_observe_0 : fo_dl cL_observe [(0, .aload_n 3, 1), (1, .iconst 0, 1), (2, .aload_n 0, 1), (3, .iload_n 1, 1), (4, .iload_n 2, 1), (5, .invokevirtual 17, 3), (8, .i2l, 1), (9, .lastore, 1), (10, .goto 15, 3), (13, .astore 4, 2), (15, .iconst 1, 1), (16, .ireturn, 1), (17, .astore 4, 2), (19, .iconst 2, 1), (20, .ireturn, 1), (21, .astore 4, 2), (23, .iconst 3, 1), (24, .ireturn, 1), (25, .iconst 0, 1), (26, .ireturn, 1)] := by decide +kernel
theorem dL_observe_0 : decode cL_observe 0 = .ok (.aload_n 3, 1) := fo_dd DL_observe_0 0 rfl
theorem dL_observe_1 : decode cL_observe 1 = .ok (.iconst 0, 1) := fo_dd DL_observe_0 1 rfl
theorem dL_observe_2 : decode cL_observe 2 = .ok (.aload_n 0, 1) := fo_dd DL_observe_0 2 rfl
theorem dL_observe_3 : decode cL_observe 3 = .ok (.iload_n 1, 1) := fo_dd DL_observe_0 3 rfl
theorem dL_observe_4 : decode cL_observe 4 = .ok (.iload_n 2, 1) := fo_dd DL_observe_0 4 rfl
theorem dL_observe_5 : decode cL_observe 5 = .ok (.invokevirtual 17, 3) := fo_dd DL_observe_0 5 rfl
theorem dL_observe_8 : decode cL_observe 8 = .ok (.i2l, 1) := fo_dd DL_observe_0 6 rfl
theorem dL_observe_9 : decode cL_observe 9 = .ok (.lastore, 1) := fo_dd DL_observe_0 7 rfl
theorem dL_observe_10 : decode cL_observe 10 = .ok (.goto 15, 3) := fo_dd DL_observe_0 8 rfl
theorem dL_observe_13 : decode cL_observe 13 = .ok (.astore 4, 2) := fo_dd DL_observe_0 9 rfl
theorem dL_observe_15 : decode cL_observe 15 = .ok (.iconst 1, 1) := fo_dd DL_observe_0 10 rfl
theorem dL_observe_16 : decode cL_observe 16 = .ok (.ireturn, 1) := fo_dd DL_observe_0 11 rfl
theorem dL_observe_17 : decode cL_observe 17 = .ok (.astore 4, 2) := fo_dd DL_observe_0 12 rfl
theorem dL_observe_19 : decode cL_observe 19 = .ok (.iconst 2, 1) := fo_dd DL_observe_0 13 rfl
theorem dL_observe_20 : decode cL_observe 20 = .ok (.ireturn, 1) := fo_dd DL_observe_0 14 rfl
theorem dL_observe_21 : decode cL_observe 21 = .ok (.astore 4, 2) := fo_dd DL_observe_0 15 rfl
theorem dL_observe_23 : decode cL_observe 23 = .ok (.iconst 3, 1) := fo_dd DL_observe_0 16 rfl
theorem dL_observe_24 : decode cL_observe 24 = .ok (.ireturn, 1) := fo_dd DL_observe_0 17 rfl
theorem dL_observe_25 : decode cL_observe 25 = .ok (.iconst 0, 1) := fo_dd DL_observe_0 18 rfl
theorem dL_observe_26 : decode cL_observe 26 = .ok (.ireturn, 1) := fo_dd DL_observe_0 19 rfl
theorem DL_setLimit_0 : fo_dl cL_setLimit [(0, .aload_n 2, 1), (1, .iconst 0, 1), (2, .aload_n 0, 1), (3, .iload_n 1, 1), (4, .invokevirtual 23, 3), (7, .i2l, 1), (8, .lastore, 1), (9, .goto 6, 3), (12, .astore_n 3, 1), (13, .iconst 1, 1), (14, .ireturn, 1), (15, .iconst 0, 1), (16, .ireturn, 1)] := by decide +kernel
theorem dL_setLimit_0 : decode cL_setLimit 0 = .ok (.aload_n 2, 1) := fo_dd DL_setLimit_0 0 rfl
theorem dL_setLimit_1 : decode cL_setLimit 1 = .ok (.iconst 0, 1) := fo_dd DL_setLimit_0 1 rfl
theorem dL_setLimit_2 : decode cL_setLimit 2 = .ok (.aload_n 0, 1) := fo_dd DL_setLimit_0 2 rfl
theorem dL_setLimit_3 : decode cL_setLimit 3 = .ok (.iload_n 1, 1) := fo_dd DL_setLimit_0 3 rfl
theorem dL_setLimit_4 : decode cL_setLimit 4 = .ok (.invokevirtual 23, 3) := fo_dd DL_setLimit_0 4 rfl
theorem dL_setLimit_7 : decode cL_setLimit 7 = .ok (.i2l, 1) := fo_dd DL_setLimit_0 5 rfl
theorem dL_setLimit_8 : decode cL_setLimit 8 = .ok (.lastore, 1) := fo_dd DL_setLimit_0 6 rfl
theorem dL_setLimit_9 : decode cL_setLimit 9 = .ok (.goto 6, 3) := fo_dd DL_setLimit_0 7 rfl
theorem dL_setLimit_12 : decode cL_setLimit 12 = .ok (.astore_n 3, 1) := fo_dd DL_setLimit_0 8 rfl
theorem dL_setLimit_13 : decode cL_setLimit 13 = .ok (.iconst 1, 1) := fo_dd DL_setLimit_0 9 rfl
theorem dL_setLimit_14 : decode cL_setLimit 14 = .ok (.ireturn, 1) := fo_dd DL_setLimit_0 10 rfl
theorem dL_setLimit_15 : decode cL_setLimit 15 = .ok (.iconst 0, 1) := fo_dd DL_setLimit_0 11 rfl
theorem dL_setLimit_16 : decode cL_setLimit 16 = .ok (.ireturn, 1) := fo_dd DL_setLimit_0 12 rfl
theorem DL_forget_0 : fo_dl cL_forget [(0, .aload_n 2, 1), (1, .iconst 0, 1), (2, .aload_n 0, 1), (3, .iload_n 1, 1), (4, .invokevirtual 27, 3), (7, .i2l, 1), (8, .lastore, 1), (9, .goto 6, 3), (12, .astore_n 3, 1), (13, .iconst 1, 1), (14, .ireturn, 1), (15, .iconst 0, 1), (16, .ireturn, 1)] := by decide +kernel
theorem dL_forget_0 : decode cL_forget 0 = .ok (.aload_n 2, 1) := fo_dd DL_forget_0 0 rfl
theorem dL_forget_1 : decode cL_forget 1 = .ok (.iconst 0, 1) := fo_dd DL_forget_0 1 rfl
theorem dL_forget_2 : decode cL_forget 2 = .ok (.aload_n 0, 1) := fo_dd DL_forget_0 2 rfl
theorem dL_forget_3 : decode cL_forget 3 = .ok (.iload_n 1, 1) := fo_dd DL_forget_0 3 rfl
theorem dL_forget_4 : decode cL_forget 4 = .ok (.invokevirtual 27, 3) := fo_dd DL_forget_0 4 rfl
theorem dL_forget_7 : decode cL_forget 7 = .ok (.i2l, 1) := fo_dd DL_forget_0 5 rfl
theorem dL_forget_8 : decode cL_forget 8 = .ok (.lastore, 1) := fo_dd DL_forget_0 6 rfl
theorem dL_forget_9 : decode cL_forget 9 = .ok (.goto 6, 3) := fo_dd DL_forget_0 7 rfl
theorem dL_forget_12 : decode cL_forget 12 = .ok (.astore_n 3, 1) := fo_dd DL_forget_0 8 rfl
theorem dL_forget_13 : decode cL_forget 13 = .ok (.iconst 1, 1) := fo_dd DL_forget_0 9 rfl
theorem dL_forget_14 : decode cL_forget 14 = .ok (.ireturn, 1) := fo_dd DL_forget_0 10 rfl
theorem dL_forget_15 : decode cL_forget 15 = .ok (.iconst 0, 1) := fo_dd DL_forget_0 11 rfl
theorem dL_forget_16 : decode cL_forget 16 = .ok (.ireturn, 1) := fo_dd DL_forget_0 12 rfl
theorem DL_days_0 : fo_dl cL_days [(0, .aload_n 2, 1), (1, .iconst 0, 1), (2, .aload_n 0, 1), (3, .iload_n 1, 1), (4, .invokevirtual 30, 3), (7, .i2l, 1), (8, .lastore, 1), (9, .goto 6, 3), (12, .astore_n 3, 1), (13, .iconst 1, 1), (14, .ireturn, 1), (15, .iconst 0, 1), (16, .ireturn, 1)] := by decide +kernel
theorem dL_days_0 : decode cL_days 0 = .ok (.aload_n 2, 1) := fo_dd DL_days_0 0 rfl
theorem dL_days_1 : decode cL_days 1 = .ok (.iconst 0, 1) := fo_dd DL_days_0 1 rfl
theorem dL_days_2 : decode cL_days 2 = .ok (.aload_n 0, 1) := fo_dd DL_days_0 2 rfl
theorem dL_days_3 : decode cL_days 3 = .ok (.iload_n 1, 1) := fo_dd DL_days_0 3 rfl
theorem dL_days_4 : decode cL_days 4 = .ok (.invokevirtual 30, 3) := fo_dd DL_days_0 4 rfl
theorem dL_days_7 : decode cL_days 7 = .ok (.i2l, 1) := fo_dd DL_days_0 5 rfl
theorem dL_days_8 : decode cL_days 8 = .ok (.lastore, 1) := fo_dd DL_days_0 6 rfl
theorem dL_days_9 : decode cL_days 9 = .ok (.goto 6, 3) := fo_dd DL_days_0 7 rfl
theorem dL_days_12 : decode cL_days 12 = .ok (.astore_n 3, 1) := fo_dd DL_days_0 8 rfl
theorem dL_days_13 : decode cL_days 13 = .ok (.iconst 1, 1) := fo_dd DL_days_0 9 rfl
theorem dL_days_14 : decode cL_days 14 = .ok (.ireturn, 1) := fo_dd DL_days_0 10 rfl
theorem dL_days_15 : decode cL_days 15 = .ok (.iconst 0, 1) := fo_dd DL_days_0 11 rfl
theorem dL_days_16 : decode cL_days 16 = .ok (.ireturn, 1) := fo_dd DL_days_0 12 rfl
theorem DL_value_0 : fo_dl cL_value [(0, .aload_n 3, 1), (1, .iconst 0, 1), (2, .aload_n 0, 1), (3, .iload_n 1, 1), (4, .iload_n 2, 1), (5, .invokevirtual 33, 3), (8, .i2l, 1), (9, .lastore, 1), (10, .goto 11, 3), (13, .astore 4, 2), (15, .iconst 1, 1), (16, .ireturn, 1), (17, .astore 4, 2), (19, .iconst 2, 1), (20, .ireturn, 1), (21, .iconst 0, 1), (22, .ireturn, 1)] := by decide +kernel
theorem dL_value_0 : decode cL_value 0 = .ok (.aload_n 3, 1) := fo_dd DL_value_0 0 rfl
theorem dL_value_1 : decode cL_value 1 = .ok (.iconst 0, 1) := fo_dd DL_value_0 1 rfl
theorem dL_value_2 : decode cL_value 2 = .ok (.aload_n 0, 1) := fo_dd DL_value_0 2 rfl
theorem dL_value_3 : decode cL_value 3 = .ok (.iload_n 1, 1) := fo_dd DL_value_0 3 rfl
theorem dL_value_4 : decode cL_value 4 = .ok (.iload_n 2, 1) := fo_dd DL_value_0 4 rfl
theorem dL_value_5 : decode cL_value 5 = .ok (.invokevirtual 33, 3) := fo_dd DL_value_0 5 rfl
theorem dL_value_8 : decode cL_value 8 = .ok (.i2l, 1) := fo_dd DL_value_0 6 rfl
theorem dL_value_9 : decode cL_value 9 = .ok (.lastore, 1) := fo_dd DL_value_0 7 rfl
theorem dL_value_10 : decode cL_value 10 = .ok (.goto 11, 3) := fo_dd DL_value_0 8 rfl
theorem dL_value_13 : decode cL_value 13 = .ok (.astore 4, 2) := fo_dd DL_value_0 9 rfl
theorem dL_value_15 : decode cL_value 15 = .ok (.iconst 1, 1) := fo_dd DL_value_0 10 rfl
theorem dL_value_16 : decode cL_value 16 = .ok (.ireturn, 1) := fo_dd DL_value_0 11 rfl
theorem dL_value_17 : decode cL_value 17 = .ok (.astore 4, 2) := fo_dd DL_value_0 12 rfl
theorem dL_value_19 : decode cL_value 19 = .ok (.iconst 2, 1) := fo_dd DL_value_0 13 rfl
theorem dL_value_20 : decode cL_value 20 = .ok (.ireturn, 1) := fo_dd DL_value_0 14 rfl
theorem dL_value_21 : decode cL_value 21 = .ok (.iconst 0, 1) := fo_dd DL_value_0 15 rfl
theorem dL_value_22 : decode cL_value 22 = .ok (.ireturn, 1) := fo_dd DL_value_0 16 rfl
theorem DL_range_0 : fo_dl cL_range [(0, .aload_n 2, 1), (1, .iconst 0, 1), (2, .aload_n 0, 1), (3, .iload_n 1, 1), (4, .invokevirtual 38, 3), (7, .i2l, 1), (8, .lastore, 1), (9, .goto 9, 3), (12, .astore_n 3, 1), (13, .iconst 1, 1), (14, .ireturn, 1), (15, .astore_n 3, 1), (16, .iconst 2, 1), (17, .ireturn, 1), (18, .iconst 0, 1), (19, .ireturn, 1)] := by decide +kernel
theorem dL_range_0 : decode cL_range 0 = .ok (.aload_n 2, 1) := fo_dd DL_range_0 0 rfl
theorem dL_range_1 : decode cL_range 1 = .ok (.iconst 0, 1) := fo_dd DL_range_0 1 rfl
theorem dL_range_2 : decode cL_range 2 = .ok (.aload_n 0, 1) := fo_dd DL_range_0 2 rfl
theorem dL_range_3 : decode cL_range 3 = .ok (.iload_n 1, 1) := fo_dd DL_range_0 3 rfl
theorem dL_range_4 : decode cL_range 4 = .ok (.invokevirtual 38, 3) := fo_dd DL_range_0 4 rfl
theorem dL_range_7 : decode cL_range 7 = .ok (.i2l, 1) := fo_dd DL_range_0 5 rfl
theorem dL_range_8 : decode cL_range 8 = .ok (.lastore, 1) := fo_dd DL_range_0 6 rfl
theorem dL_range_9 : decode cL_range 9 = .ok (.goto 9, 3) := fo_dd DL_range_0 7 rfl
theorem dL_range_12 : decode cL_range 12 = .ok (.astore_n 3, 1) := fo_dd DL_range_0 8 rfl
theorem dL_range_13 : decode cL_range 13 = .ok (.iconst 1, 1) := fo_dd DL_range_0 9 rfl
theorem dL_range_14 : decode cL_range 14 = .ok (.ireturn, 1) := fo_dd DL_range_0 10 rfl
theorem dL_range_15 : decode cL_range 15 = .ok (.astore_n 3, 1) := fo_dd DL_range_0 11 rfl
theorem dL_range_16 : decode cL_range 16 = .ok (.iconst 2, 1) := fo_dd DL_range_0 12 rfl
theorem dL_range_17 : decode cL_range 17 = .ok (.ireturn, 1) := fo_dd DL_range_0 13 rfl
theorem dL_range_18 : decode cL_range 18 = .ok (.iconst 0, 1) := fo_dd DL_range_0 14 rfl
theorem dL_range_19 : decode cL_range 19 = .ok (.ireturn, 1) := fo_dd DL_range_0 15 rfl
theorem DL_movingAverage_0 : fo_dl cL_movingAverage [(0, .aload_n 3, 1), (1, .iconst 0, 1), (2, .aload_n 0, 1), (3, .iload_n 1, 1), (4, .iload_n 2, 1), (5, .invokevirtual 41, 3), (8, .dastore, 1), (9, .goto 15, 3), (12, .astore 4, 2), (14, .iconst 1, 1), (15, .ireturn, 1), (16, .astore 4, 2), (18, .iconst 2, 1), (19, .ireturn, 1), (20, .astore 4, 2), (22, .iconst 3, 1), (23, .ireturn, 1), (24, .iconst 0, 1), (25, .ireturn, 1)] := by decide +kernel
theorem dL_movingAverage_0 : decode cL_movingAverage 0 = .ok (.aload_n 3, 1) := fo_dd DL_movingAverage_0 0 rfl
theorem dL_movingAverage_1 : decode cL_movingAverage 1 = .ok (.iconst 0, 1) := fo_dd DL_movingAverage_0 1 rfl
theorem dL_movingAverage_2 : decode cL_movingAverage 2 = .ok (.aload_n 0, 1) := fo_dd DL_movingAverage_0 2 rfl
theorem dL_movingAverage_3 : decode cL_movingAverage 3 = .ok (.iload_n 1, 1) := fo_dd DL_movingAverage_0 3 rfl
theorem dL_movingAverage_4 : decode cL_movingAverage 4 = .ok (.iload_n 2, 1) := fo_dd DL_movingAverage_0 4 rfl
theorem dL_movingAverage_5 : decode cL_movingAverage 5 = .ok (.invokevirtual 41, 3) := fo_dd DL_movingAverage_0 5 rfl
theorem dL_movingAverage_8 : decode cL_movingAverage 8 = .ok (.dastore, 1) := fo_dd DL_movingAverage_0 6 rfl
theorem dL_movingAverage_9 : decode cL_movingAverage 9 = .ok (.goto 15, 3) := fo_dd DL_movingAverage_0 7 rfl
theorem dL_movingAverage_12 : decode cL_movingAverage 12 = .ok (.astore 4, 2) := fo_dd DL_movingAverage_0 8 rfl
theorem dL_movingAverage_14 : decode cL_movingAverage 14 = .ok (.iconst 1, 1) := fo_dd DL_movingAverage_0 9 rfl
theorem dL_movingAverage_15 : decode cL_movingAverage 15 = .ok (.ireturn, 1) := fo_dd DL_movingAverage_0 10 rfl
theorem dL_movingAverage_16 : decode cL_movingAverage 16 = .ok (.astore 4, 2) := fo_dd DL_movingAverage_0 11 rfl
theorem dL_movingAverage_18 : decode cL_movingAverage 18 = .ok (.iconst 2, 1) := fo_dd DL_movingAverage_0 12 rfl
theorem dL_movingAverage_19 : decode cL_movingAverage 19 = .ok (.ireturn, 1) := fo_dd DL_movingAverage_0 13 rfl
theorem dL_movingAverage_20 : decode cL_movingAverage 20 = .ok (.astore 4, 2) := fo_dd DL_movingAverage_0 14 rfl
theorem dL_movingAverage_22 : decode cL_movingAverage 22 = .ok (.iconst 3, 1) := fo_dd DL_movingAverage_0 15 rfl
theorem dL_movingAverage_23 : decode cL_movingAverage 23 = .ok (.ireturn, 1) := fo_dd DL_movingAverage_0 16 rfl
theorem dL_movingAverage_24 : decode cL_movingAverage 24 = .ok (.iconst 0, 1) := fo_dd DL_movingAverage_0 17 rfl
theorem dL_movingAverage_25 : decode cL_movingAverage 25 = .ok (.ireturn, 1) := fo_dd DL_movingAverage_0 18 rfl
theorem DL_movingAverageBySums_0 : fo_dl cL_movingAverageBySums [(0, .aload_n 3, 1), (1, .iconst 0, 1), (2, .aload_n 0, 1), (3, .iload_n 1, 1), (4, .iload_n 2, 1), (5, .invokevirtual 45, 3), (8, .dastore, 1), (9, .goto 15, 3), (12, .astore 4, 2), (14, .iconst 1, 1), (15, .ireturn, 1), (16, .astore 4, 2), (18, .iconst 2, 1), (19, .ireturn, 1), (20, .astore 4, 2), (22, .iconst 3, 1), (23, .ireturn, 1), (24, .iconst 0, 1), (25, .ireturn, 1)] := by decide +kernel
theorem dL_movingAverageBySums_0 : decode cL_movingAverageBySums 0 = .ok (.aload_n 3, 1) := fo_dd DL_movingAverageBySums_0 0 rfl
theorem dL_movingAverageBySums_1 : decode cL_movingAverageBySums 1 = .ok (.iconst 0, 1) := fo_dd DL_movingAverageBySums_0 1 rfl
theorem dL_movingAverageBySums_2 : decode cL_movingAverageBySums 2 = .ok (.aload_n 0, 1) := fo_dd DL_movingAverageBySums_0 2 rfl
theorem dL_movingAverageBySums_3 : decode cL_movingAverageBySums 3 = .ok (.iload_n 1, 1) := fo_dd DL_movingAverageBySums_0 3 rfl
theorem dL_movingAverageBySums_4 : decode cL_movingAverageBySums 4 = .ok (.iload_n 2, 1) := fo_dd DL_movingAverageBySums_0 4 rfl
theorem dL_movingAverageBySums_5 : decode cL_movingAverageBySums 5 = .ok (.invokevirtual 45, 3) := fo_dd DL_movingAverageBySums_0 5 rfl
theorem dL_movingAverageBySums_8 : decode cL_movingAverageBySums 8 = .ok (.dastore, 1) := fo_dd DL_movingAverageBySums_0 6 rfl
theorem dL_movingAverageBySums_9 : decode cL_movingAverageBySums 9 = .ok (.goto 15, 3) := fo_dd DL_movingAverageBySums_0 7 rfl
theorem dL_movingAverageBySums_12 : decode cL_movingAverageBySums 12 = .ok (.astore 4, 2) := fo_dd DL_movingAverageBySums_0 8 rfl
theorem dL_movingAverageBySums_14 : decode cL_movingAverageBySums 14 = .ok (.iconst 1, 1) := fo_dd DL_movingAverageBySums_0 9 rfl
theorem dL_movingAverageBySums_15 : decode cL_movingAverageBySums 15 = .ok (.ireturn, 1) := fo_dd DL_movingAverageBySums_0 10 rfl
theorem dL_movingAverageBySums_16 : decode cL_movingAverageBySums 16 = .ok (.astore 4, 2) := fo_dd DL_movingAverageBySums_0 11 rfl
theorem dL_movingAverageBySums_18 : decode cL_movingAverageBySums 18 = .ok (.iconst 2, 1) := fo_dd DL_movingAverageBySums_0 12 rfl
theorem dL_movingAverageBySums_19 : decode cL_movingAverageBySums 19 = .ok (.ireturn, 1) := fo_dd DL_movingAverageBySums_0 13 rfl
theorem dL_movingAverageBySums_20 : decode cL_movingAverageBySums 20 = .ok (.astore 4, 2) := fo_dd DL_movingAverageBySums_0 14 rfl
theorem dL_movingAverageBySums_22 : decode cL_movingAverageBySums 22 = .ok (.iconst 3, 1) := fo_dd DL_movingAverageBySums_0 15 rfl
theorem dL_movingAverageBySums_23 : decode cL_movingAverageBySums 23 = .ok (.ireturn, 1) := fo_dd DL_movingAverageBySums_0 16 rfl
theorem dL_movingAverageBySums_24 : decode cL_movingAverageBySums 24 = .ok (.iconst 0, 1) := fo_dd DL_movingAverageBySums_0 17 rfl
theorem dL_movingAverageBySums_25 : decode cL_movingAverageBySums 25 = .ok (.ireturn, 1) := fo_dd DL_movingAverageBySums_0 18 rfl
theorem DL_median_0 : fo_dl cL_median [(0, .aload_n 3, 1), (1, .iconst 0, 1), (2, .aload_n 0, 1), (3, .iload_n 1, 1), (4, .iload_n 2, 1), (5, .invokevirtual 48, 3), (8, .i2l, 1), (9, .lastore, 1), (10, .goto 15, 3), (13, .astore 4, 2), (15, .iconst 1, 1), (16, .ireturn, 1), (17, .astore 4, 2), (19, .iconst 2, 1), (20, .ireturn, 1), (21, .astore 4, 2), (23, .iconst 3, 1), (24, .ireturn, 1), (25, .iconst 0, 1), (26, .ireturn, 1)] := by decide +kernel
theorem dL_median_0 : decode cL_median 0 = .ok (.aload_n 3, 1) := fo_dd DL_median_0 0 rfl
theorem dL_median_1 : decode cL_median 1 = .ok (.iconst 0, 1) := fo_dd DL_median_0 1 rfl
theorem dL_median_2 : decode cL_median 2 = .ok (.aload_n 0, 1) := fo_dd DL_median_0 2 rfl
theorem dL_median_3 : decode cL_median 3 = .ok (.iload_n 1, 1) := fo_dd DL_median_0 3 rfl
theorem dL_median_4 : decode cL_median 4 = .ok (.iload_n 2, 1) := fo_dd DL_median_0 4 rfl
theorem dL_median_5 : decode cL_median 5 = .ok (.invokevirtual 48, 3) := fo_dd DL_median_0 5 rfl
theorem dL_median_8 : decode cL_median 8 = .ok (.i2l, 1) := fo_dd DL_median_0 6 rfl
theorem dL_median_9 : decode cL_median 9 = .ok (.lastore, 1) := fo_dd DL_median_0 7 rfl
theorem dL_median_10 : decode cL_median 10 = .ok (.goto 15, 3) := fo_dd DL_median_0 8 rfl
theorem dL_median_13 : decode cL_median 13 = .ok (.astore 4, 2) := fo_dd DL_median_0 9 rfl
theorem dL_median_15 : decode cL_median 15 = .ok (.iconst 1, 1) := fo_dd DL_median_0 10 rfl
theorem dL_median_16 : decode cL_median 16 = .ok (.ireturn, 1) := fo_dd DL_median_0 11 rfl
theorem dL_median_17 : decode cL_median 17 = .ok (.astore 4, 2) := fo_dd DL_median_0 12 rfl
theorem dL_median_19 : decode cL_median 19 = .ok (.iconst 2, 1) := fo_dd DL_median_0 13 rfl
theorem dL_median_20 : decode cL_median 20 = .ok (.ireturn, 1) := fo_dd DL_median_0 14 rfl
theorem dL_median_21 : decode cL_median 21 = .ok (.astore 4, 2) := fo_dd DL_median_0 15 rfl
theorem dL_median_23 : decode cL_median 23 = .ok (.iconst 3, 1) := fo_dd DL_median_0 16 rfl
theorem dL_median_24 : decode cL_median 24 = .ok (.ireturn, 1) := fo_dd DL_median_0 17 rfl
theorem dL_median_25 : decode cL_median 25 = .ok (.iconst 0, 1) := fo_dd DL_median_0 18 rfl
theorem dL_median_26 : decode cL_median 26 = .ok (.ireturn, 1) := fo_dd DL_median_0 19 rfl
theorem DL_medianByCounting_0 : fo_dl cL_medianByCounting [(0, .aload_n 3, 1), (1, .iconst 0, 1), (2, .aload_n 0, 1), (3, .iload_n 1, 1), (4, .iload_n 2, 1), (5, .invokevirtual 51, 3), (8, .i2l, 1), (9, .lastore, 1), (10, .goto 15, 3), (13, .astore 4, 2), (15, .iconst 1, 1), (16, .ireturn, 1), (17, .astore 4, 2), (19, .iconst 2, 1), (20, .ireturn, 1), (21, .astore 4, 2), (23, .iconst 3, 1), (24, .ireturn, 1), (25, .iconst 0, 1), (26, .ireturn, 1)] := by decide +kernel
theorem dL_medianByCounting_0 : decode cL_medianByCounting 0 = .ok (.aload_n 3, 1) := fo_dd DL_medianByCounting_0 0 rfl
theorem dL_medianByCounting_1 : decode cL_medianByCounting 1 = .ok (.iconst 0, 1) := fo_dd DL_medianByCounting_0 1 rfl
theorem dL_medianByCounting_2 : decode cL_medianByCounting 2 = .ok (.aload_n 0, 1) := fo_dd DL_medianByCounting_0 2 rfl
theorem dL_medianByCounting_3 : decode cL_medianByCounting 3 = .ok (.iload_n 1, 1) := fo_dd DL_medianByCounting_0 3 rfl
theorem dL_medianByCounting_4 : decode cL_medianByCounting 4 = .ok (.iload_n 2, 1) := fo_dd DL_medianByCounting_0 4 rfl
theorem dL_medianByCounting_5 : decode cL_medianByCounting 5 = .ok (.invokevirtual 51, 3) := fo_dd DL_medianByCounting_0 5 rfl
theorem dL_medianByCounting_8 : decode cL_medianByCounting 8 = .ok (.i2l, 1) := fo_dd DL_medianByCounting_0 6 rfl
theorem dL_medianByCounting_9 : decode cL_medianByCounting 9 = .ok (.lastore, 1) := fo_dd DL_medianByCounting_0 7 rfl
theorem dL_medianByCounting_10 : decode cL_medianByCounting 10 = .ok (.goto 15, 3) := fo_dd DL_medianByCounting_0 8 rfl
theorem dL_medianByCounting_13 : decode cL_medianByCounting 13 = .ok (.astore 4, 2) := fo_dd DL_medianByCounting_0 9 rfl
theorem dL_medianByCounting_15 : decode cL_medianByCounting 15 = .ok (.iconst 1, 1) := fo_dd DL_medianByCounting_0 10 rfl
theorem dL_medianByCounting_16 : decode cL_medianByCounting 16 = .ok (.ireturn, 1) := fo_dd DL_medianByCounting_0 11 rfl
theorem dL_medianByCounting_17 : decode cL_medianByCounting 17 = .ok (.astore 4, 2) := fo_dd DL_medianByCounting_0 12 rfl
theorem dL_medianByCounting_19 : decode cL_medianByCounting 19 = .ok (.iconst 2, 1) := fo_dd DL_medianByCounting_0 13 rfl
theorem dL_medianByCounting_20 : decode cL_medianByCounting 20 = .ok (.ireturn, 1) := fo_dd DL_medianByCounting_0 14 rfl
theorem dL_medianByCounting_21 : decode cL_medianByCounting 21 = .ok (.astore 4, 2) := fo_dd DL_medianByCounting_0 15 rfl
theorem dL_medianByCounting_23 : decode cL_medianByCounting 23 = .ok (.iconst 3, 1) := fo_dd DL_medianByCounting_0 16 rfl
theorem dL_medianByCounting_24 : decode cL_medianByCounting 24 = .ok (.ireturn, 1) := fo_dd DL_medianByCounting_0 17 rfl
theorem dL_medianByCounting_25 : decode cL_medianByCounting 25 = .ok (.iconst 0, 1) := fo_dd DL_medianByCounting_0 18 rfl
theorem dL_medianByCounting_26 : decode cL_medianByCounting 26 = .ok (.ireturn, 1) := fo_dd DL_medianByCounting_0 19 rfl
theorem DL_smoothed_0 : fo_dl cL_smoothed [(0, .aload_n 3, 1), (1, .iconst 0, 1), (2, .aload_n 0, 1), (3, .iload_n 1, 1), (4, .iload_n 2, 1), (5, .invokevirtual 54, 3), (8, .dastore, 1), (9, .goto 15, 3), (12, .astore 4, 2), (14, .iconst 1, 1), (15, .ireturn, 1), (16, .astore 4, 2), (18, .iconst 2, 1), (19, .ireturn, 1), (20, .astore 4, 2), (22, .iconst 3, 1), (23, .ireturn, 1), (24, .iconst 0, 1), (25, .ireturn, 1)] := by decide +kernel
theorem dL_smoothed_0 : decode cL_smoothed 0 = .ok (.aload_n 3, 1) := fo_dd DL_smoothed_0 0 rfl
theorem dL_smoothed_1 : decode cL_smoothed 1 = .ok (.iconst 0, 1) := fo_dd DL_smoothed_0 1 rfl
theorem dL_smoothed_2 : decode cL_smoothed 2 = .ok (.aload_n 0, 1) := fo_dd DL_smoothed_0 2 rfl
theorem dL_smoothed_3 : decode cL_smoothed 3 = .ok (.iload_n 1, 1) := fo_dd DL_smoothed_0 3 rfl
theorem dL_smoothed_4 : decode cL_smoothed 4 = .ok (.iload_n 2, 1) := fo_dd DL_smoothed_0 4 rfl
theorem dL_smoothed_5 : decode cL_smoothed 5 = .ok (.invokevirtual 54, 3) := fo_dd DL_smoothed_0 5 rfl
theorem dL_smoothed_8 : decode cL_smoothed 8 = .ok (.dastore, 1) := fo_dd DL_smoothed_0 6 rfl
theorem dL_smoothed_9 : decode cL_smoothed 9 = .ok (.goto 15, 3) := fo_dd DL_smoothed_0 7 rfl
theorem dL_smoothed_12 : decode cL_smoothed 12 = .ok (.astore 4, 2) := fo_dd DL_smoothed_0 8 rfl
theorem dL_smoothed_14 : decode cL_smoothed 14 = .ok (.iconst 1, 1) := fo_dd DL_smoothed_0 9 rfl
theorem dL_smoothed_15 : decode cL_smoothed 15 = .ok (.ireturn, 1) := fo_dd DL_smoothed_0 10 rfl
theorem dL_smoothed_16 : decode cL_smoothed 16 = .ok (.astore 4, 2) := fo_dd DL_smoothed_0 11 rfl
theorem dL_smoothed_18 : decode cL_smoothed 18 = .ok (.iconst 2, 1) := fo_dd DL_smoothed_0 12 rfl
theorem dL_smoothed_19 : decode cL_smoothed 19 = .ok (.ireturn, 1) := fo_dd DL_smoothed_0 13 rfl
theorem dL_smoothed_20 : decode cL_smoothed 20 = .ok (.astore 4, 2) := fo_dd DL_smoothed_0 14 rfl
theorem dL_smoothed_22 : decode cL_smoothed 22 = .ok (.iconst 3, 1) := fo_dd DL_smoothed_0 15 rfl
theorem dL_smoothed_23 : decode cL_smoothed 23 = .ok (.ireturn, 1) := fo_dd DL_smoothed_0 16 rfl
theorem dL_smoothed_24 : decode cL_smoothed 24 = .ok (.iconst 0, 1) := fo_dd DL_smoothed_0 17 rfl
theorem dL_smoothed_25 : decode cL_smoothed 25 = .ok (.ireturn, 1) := fo_dd DL_smoothed_0 18 rfl
theorem DL_isOutlier_0 : fo_dl cL_isOutlier [(0, .aload_n 3, 1), (1, .iconst 0, 1), (2, .aload_n 0, 1), (3, .iload_n 1, 1), (4, .iload_n 2, 1), (5, .invokevirtual 57, 3), (8, .ifCond .eq 7, 3), (11, .lconst 1, 1), (12, .goto 4, 3), (15, .lconst 0, 1), (16, .lastore, 1), (17, .goto 11, 3), (20, .astore 4, 2), (22, .iconst 1, 1), (23, .ireturn, 1), (24, .astore 4, 2), (26, .iconst 2, 1), (27, .ireturn, 1), (28, .iconst 0, 1), (29, .ireturn, 1)] := by decide +kernel
theorem dL_isOutlier_0 : decode cL_isOutlier 0 = .ok (.aload_n 3, 1) := fo_dd DL_isOutlier_0 0 rfl
theorem dL_isOutlier_1 : decode cL_isOutlier 1 = .ok (.iconst 0, 1) := fo_dd DL_isOutlier_0 1 rfl
theorem dL_isOutlier_2 : decode cL_isOutlier 2 = .ok (.aload_n 0, 1) := fo_dd DL_isOutlier_0 2 rfl
theorem dL_isOutlier_3 : decode cL_isOutlier 3 = .ok (.iload_n 1, 1) := fo_dd DL_isOutlier_0 3 rfl
theorem dL_isOutlier_4 : decode cL_isOutlier 4 = .ok (.iload_n 2, 1) := fo_dd DL_isOutlier_0 4 rfl
theorem dL_isOutlier_5 : decode cL_isOutlier 5 = .ok (.invokevirtual 57, 3) := fo_dd DL_isOutlier_0 5 rfl
theorem dL_isOutlier_8 : decode cL_isOutlier 8 = .ok (.ifCond .eq 7, 3) := fo_dd DL_isOutlier_0 6 rfl
theorem dL_isOutlier_11 : decode cL_isOutlier 11 = .ok (.lconst 1, 1) := fo_dd DL_isOutlier_0 7 rfl
theorem dL_isOutlier_12 : decode cL_isOutlier 12 = .ok (.goto 4, 3) := fo_dd DL_isOutlier_0 8 rfl
theorem dL_isOutlier_15 : decode cL_isOutlier 15 = .ok (.lconst 0, 1) := fo_dd DL_isOutlier_0 9 rfl
theorem dL_isOutlier_16 : decode cL_isOutlier 16 = .ok (.lastore, 1) := fo_dd DL_isOutlier_0 10 rfl
theorem dL_isOutlier_17 : decode cL_isOutlier 17 = .ok (.goto 11, 3) := fo_dd DL_isOutlier_0 11 rfl
theorem dL_isOutlier_20 : decode cL_isOutlier 20 = .ok (.astore 4, 2) := fo_dd DL_isOutlier_0 12 rfl
theorem dL_isOutlier_22 : decode cL_isOutlier 22 = .ok (.iconst 1, 1) := fo_dd DL_isOutlier_0 13 rfl
theorem dL_isOutlier_23 : decode cL_isOutlier 23 = .ok (.ireturn, 1) := fo_dd DL_isOutlier_0 14 rfl
theorem dL_isOutlier_24 : decode cL_isOutlier 24 = .ok (.astore 4, 2) := fo_dd DL_isOutlier_0 15 rfl
theorem dL_isOutlier_26 : decode cL_isOutlier 26 = .ok (.iconst 2, 1) := fo_dd DL_isOutlier_0 16 rfl
theorem dL_isOutlier_27 : decode cL_isOutlier 27 = .ok (.ireturn, 1) := fo_dd DL_isOutlier_0 17 rfl
theorem dL_isOutlier_28 : decode cL_isOutlier 28 = .ok (.iconst 0, 1) := fo_dd DL_isOutlier_0 18 rfl
theorem dL_isOutlier_29 : decode cL_isOutlier 29 = .ok (.ireturn, 1) := fo_dd DL_isOutlier_0 19 rfl
theorem DL_outliers_0 : fo_dl cL_outliers [(0, .aload_n 2, 1), (1, .iconst 0, 1), (2, .aload_n 0, 1), (3, .iload_n 1, 1), (4, .invokevirtual 61, 3), (7, .i2l, 1), (8, .lastore, 1), (9, .goto 6, 3), (12, .astore_n 3, 1), (13, .iconst 1, 1), (14, .ireturn, 1), (15, .iconst 0, 1), (16, .ireturn, 1)] := by decide +kernel
theorem dL_outliers_0 : decode cL_outliers 0 = .ok (.aload_n 2, 1) := fo_dd DL_outliers_0 0 rfl
theorem dL_outliers_1 : decode cL_outliers 1 = .ok (.iconst 0, 1) := fo_dd DL_outliers_0 1 rfl
theorem dL_outliers_2 : decode cL_outliers 2 = .ok (.aload_n 0, 1) := fo_dd DL_outliers_0 2 rfl
theorem dL_outliers_3 : decode cL_outliers 3 = .ok (.iload_n 1, 1) := fo_dd DL_outliers_0 3 rfl
theorem dL_outliers_4 : decode cL_outliers 4 = .ok (.invokevirtual 61, 3) := fo_dd DL_outliers_0 4 rfl
theorem dL_outliers_7 : decode cL_outliers 7 = .ok (.i2l, 1) := fo_dd DL_outliers_0 5 rfl
theorem dL_outliers_8 : decode cL_outliers 8 = .ok (.lastore, 1) := fo_dd DL_outliers_0 6 rfl
theorem dL_outliers_9 : decode cL_outliers 9 = .ok (.goto 6, 3) := fo_dd DL_outliers_0 7 rfl
theorem dL_outliers_12 : decode cL_outliers 12 = .ok (.astore_n 3, 1) := fo_dd DL_outliers_0 8 rfl
theorem dL_outliers_13 : decode cL_outliers 13 = .ok (.iconst 1, 1) := fo_dd DL_outliers_0 9 rfl
theorem dL_outliers_14 : decode cL_outliers 14 = .ok (.ireturn, 1) := fo_dd DL_outliers_0 10 rfl
theorem dL_outliers_15 : decode cL_outliers 15 = .ok (.iconst 0, 1) := fo_dd DL_outliers_0 11 rfl
theorem dL_outliers_16 : decode cL_outliers 16 = .ok (.ireturn, 1) := fo_dd DL_outliers_0 12 rfl
theorem DL_longestRise_0 : fo_dl cL_longestRise [(0, .aload_n 2, 1), (1, .iconst 0, 1), (2, .aload_n 0, 1), (3, .iload_n 1, 1), (4, .invokevirtual 64, 3), (7, .i2l, 1), (8, .lastore, 1), (9, .goto 6, 3), (12, .astore_n 3, 1), (13, .iconst 1, 1), (14, .ireturn, 1), (15, .iconst 0, 1), (16, .ireturn, 1)] := by decide +kernel
theorem dL_longestRise_0 : decode cL_longestRise 0 = .ok (.aload_n 2, 1) := fo_dd DL_longestRise_0 0 rfl
theorem dL_longestRise_1 : decode cL_longestRise 1 = .ok (.iconst 0, 1) := fo_dd DL_longestRise_0 1 rfl
theorem dL_longestRise_2 : decode cL_longestRise 2 = .ok (.aload_n 0, 1) := fo_dd DL_longestRise_0 2 rfl
theorem dL_longestRise_3 : decode cL_longestRise 3 = .ok (.iload_n 1, 1) := fo_dd DL_longestRise_0 3 rfl
theorem dL_longestRise_4 : decode cL_longestRise 4 = .ok (.invokevirtual 64, 3) := fo_dd DL_longestRise_0 4 rfl
theorem dL_longestRise_7 : decode cL_longestRise 7 = .ok (.i2l, 1) := fo_dd DL_longestRise_0 5 rfl
theorem dL_longestRise_8 : decode cL_longestRise 8 = .ok (.lastore, 1) := fo_dd DL_longestRise_0 6 rfl
theorem dL_longestRise_9 : decode cL_longestRise 9 = .ok (.goto 6, 3) := fo_dd DL_longestRise_0 7 rfl
theorem dL_longestRise_12 : decode cL_longestRise 12 = .ok (.astore_n 3, 1) := fo_dd DL_longestRise_0 8 rfl
theorem dL_longestRise_13 : decode cL_longestRise 13 = .ok (.iconst 1, 1) := fo_dd DL_longestRise_0 9 rfl
theorem dL_longestRise_14 : decode cL_longestRise 14 = .ok (.ireturn, 1) := fo_dd DL_longestRise_0 10 rfl
theorem dL_longestRise_15 : decode cL_longestRise 15 = .ok (.iconst 0, 1) := fo_dd DL_longestRise_0 11 rfl
theorem dL_longestRise_16 : decode cL_longestRise 16 = .ok (.ireturn, 1) := fo_dd DL_longestRise_0 12 rfl
theorem DL_valuesBetween_0 : fo_dl cL_valuesBetween [(0, .aload 4, 2), (2, .iconst 0, 1), (3, .aload_n 0, 1), (4, .iload_n 1, 1), (5, .iload_n 2, 1), (6, .iload_n 3, 1), (7, .invokevirtual 67, 3), (10, .i2l, 1), (11, .lastore, 1), (12, .goto 7, 3), (15, .astore 5, 2), (17, .iconst 1, 1), (18, .ireturn, 1), (19, .iconst 0, 1), (20, .ireturn, 1)] := by decide +kernel
theorem dL_valuesBetween_0 : decode cL_valuesBetween 0 = .ok (.aload 4, 2) := fo_dd DL_valuesBetween_0 0 rfl
theorem dL_valuesBetween_2 : decode cL_valuesBetween 2 = .ok (.iconst 0, 1) := fo_dd DL_valuesBetween_0 1 rfl
theorem dL_valuesBetween_3 : decode cL_valuesBetween 3 = .ok (.aload_n 0, 1) := fo_dd DL_valuesBetween_0 2 rfl
theorem dL_valuesBetween_4 : decode cL_valuesBetween 4 = .ok (.iload_n 1, 1) := fo_dd DL_valuesBetween_0 3 rfl
theorem dL_valuesBetween_5 : decode cL_valuesBetween 5 = .ok (.iload_n 2, 1) := fo_dd DL_valuesBetween_0 4 rfl
theorem dL_valuesBetween_6 : decode cL_valuesBetween 6 = .ok (.iload_n 3, 1) := fo_dd DL_valuesBetween_0 5 rfl
theorem dL_valuesBetween_7 : decode cL_valuesBetween 7 = .ok (.invokevirtual 67, 3) := fo_dd DL_valuesBetween_0 6 rfl
theorem dL_valuesBetween_10 : decode cL_valuesBetween 10 = .ok (.i2l, 1) := fo_dd DL_valuesBetween_0 7 rfl
theorem dL_valuesBetween_11 : decode cL_valuesBetween 11 = .ok (.lastore, 1) := fo_dd DL_valuesBetween_0 8 rfl
theorem dL_valuesBetween_12 : decode cL_valuesBetween 12 = .ok (.goto 7, 3) := fo_dd DL_valuesBetween_0 9 rfl
theorem dL_valuesBetween_15 : decode cL_valuesBetween 15 = .ok (.astore 5, 2) := fo_dd DL_valuesBetween_0 10 rfl
theorem dL_valuesBetween_17 : decode cL_valuesBetween 17 = .ok (.iconst 1, 1) := fo_dd DL_valuesBetween_0 11 rfl
theorem dL_valuesBetween_18 : decode cL_valuesBetween 18 = .ok (.ireturn, 1) := fo_dd DL_valuesBetween_0 12 rfl
theorem dL_valuesBetween_19 : decode cL_valuesBetween 19 = .ok (.iconst 0, 1) := fo_dd DL_valuesBetween_0 13 rfl
theorem dL_valuesBetween_20 : decode cL_valuesBetween 20 = .ok (.ireturn, 1) := fo_dd DL_valuesBetween_0 14 rfl
theorem DL_kind_0 : fo_dl cL_kind [(0, .aload_n 2, 1), (1, .iconst 0, 1), (2, .aload_n 0, 1), (3, .iload_n 1, 1), (4, .invokevirtual 71, 3), (7, .i2l, 1), (8, .lastore, 1), (9, .goto 6, 3), (12, .astore_n 3, 1), (13, .iconst 1, 1), (14, .ireturn, 1), (15, .iconst 0, 1), (16, .ireturn, 1)] := by decide +kernel
theorem dL_kind_0 : decode cL_kind 0 = .ok (.aload_n 2, 1) := fo_dd DL_kind_0 0 rfl
theorem dL_kind_1 : decode cL_kind 1 = .ok (.iconst 0, 1) := fo_dd DL_kind_0 1 rfl
theorem dL_kind_2 : decode cL_kind 2 = .ok (.aload_n 0, 1) := fo_dd DL_kind_0 2 rfl
theorem dL_kind_3 : decode cL_kind 3 = .ok (.iload_n 1, 1) := fo_dd DL_kind_0 3 rfl
theorem dL_kind_4 : decode cL_kind 4 = .ok (.invokevirtual 71, 3) := fo_dd DL_kind_0 4 rfl
theorem dL_kind_7 : decode cL_kind 7 = .ok (.i2l, 1) := fo_dd DL_kind_0 5 rfl
theorem dL_kind_8 : decode cL_kind 8 = .ok (.lastore, 1) := fo_dd DL_kind_0 6 rfl
theorem dL_kind_9 : decode cL_kind 9 = .ok (.goto 6, 3) := fo_dd DL_kind_0 7 rfl
theorem dL_kind_12 : decode cL_kind 12 = .ok (.astore_n 3, 1) := fo_dd DL_kind_0 8 rfl
theorem dL_kind_13 : decode cL_kind 13 = .ok (.iconst 1, 1) := fo_dd DL_kind_0 9 rfl
theorem dL_kind_14 : decode cL_kind 14 = .ok (.ireturn, 1) := fo_dd DL_kind_0 10 rfl
theorem dL_kind_15 : decode cL_kind 15 = .ok (.iconst 0, 1) := fo_dd DL_kind_0 11 rfl
theorem dL_kind_16 : decode cL_kind 16 = .ok (.ireturn, 1) := fo_dd DL_kind_0 12 rfl
theorem DL_parameter_0 : fo_dl cL_parameter [(0, .aload_n 2, 1), (1, .iconst 0, 1), (2, .aload_n 0, 1), (3, .iload_n 1, 1), (4, .invokevirtual 75, 3), (7, .i2l, 1), (8, .lastore, 1), (9, .goto 6, 3), (12, .astore_n 3, 1), (13, .iconst 1, 1), (14, .ireturn, 1), (15, .iconst 0, 1), (16, .ireturn, 1)] := by decide +kernel
theorem dL_parameter_0 : decode cL_parameter 0 = .ok (.aload_n 2, 1) := fo_dd DL_parameter_0 0 rfl
theorem dL_parameter_1 : decode cL_parameter 1 = .ok (.iconst 0, 1) := fo_dd DL_parameter_0 1 rfl
theorem dL_parameter_2 : decode cL_parameter 2 = .ok (.aload_n 0, 1) := fo_dd DL_parameter_0 2 rfl
theorem dL_parameter_3 : decode cL_parameter 3 = .ok (.iload_n 1, 1) := fo_dd DL_parameter_0 3 rfl
theorem dL_parameter_4 : decode cL_parameter 4 = .ok (.invokevirtual 75, 3) := fo_dd DL_parameter_0 4 rfl
theorem dL_parameter_7 : decode cL_parameter 7 = .ok (.i2l, 1) := fo_dd DL_parameter_0 5 rfl
theorem dL_parameter_8 : decode cL_parameter 8 = .ok (.lastore, 1) := fo_dd DL_parameter_0 6 rfl
theorem dL_parameter_9 : decode cL_parameter 9 = .ok (.goto 6, 3) := fo_dd DL_parameter_0 7 rfl
theorem dL_parameter_12 : decode cL_parameter 12 = .ok (.astore_n 3, 1) := fo_dd DL_parameter_0 8 rfl
theorem dL_parameter_13 : decode cL_parameter 13 = .ok (.iconst 1, 1) := fo_dd DL_parameter_0 9 rfl
theorem dL_parameter_14 : decode cL_parameter 14 = .ok (.ireturn, 1) := fo_dd DL_parameter_0 10 rfl
theorem dL_parameter_15 : decode cL_parameter 15 = .ok (.iconst 0, 1) := fo_dd DL_parameter_0 11 rfl
theorem dL_parameter_16 : decode cL_parameter 16 = .ok (.ireturn, 1) := fo_dd DL_parameter_0 12 rfl
theorem DL_hasForecast_0 : fo_dl cL_hasForecast [(0, .aload_n 3, 1), (1, .iconst 0, 1), (2, .aload_n 0, 1), (3, .iload_n 1, 1), (4, .iload_n 2, 1), (5, .invokevirtual 78, 3), (8, .ifCond .eq 7, 3), (11, .lconst 1, 1), (12, .goto 4, 3), (15, .lconst 0, 1), (16, .lastore, 1), (17, .goto 7, 3), (20, .astore 4, 2), (22, .iconst 1, 1), (23, .ireturn, 1), (24, .iconst 0, 1), (25, .ireturn, 1)] := by decide +kernel
theorem dL_hasForecast_0 : decode cL_hasForecast 0 = .ok (.aload_n 3, 1) := fo_dd DL_hasForecast_0 0 rfl
theorem dL_hasForecast_1 : decode cL_hasForecast 1 = .ok (.iconst 0, 1) := fo_dd DL_hasForecast_0 1 rfl
theorem dL_hasForecast_2 : decode cL_hasForecast 2 = .ok (.aload_n 0, 1) := fo_dd DL_hasForecast_0 2 rfl
theorem dL_hasForecast_3 : decode cL_hasForecast 3 = .ok (.iload_n 1, 1) := fo_dd DL_hasForecast_0 3 rfl
theorem dL_hasForecast_4 : decode cL_hasForecast 4 = .ok (.iload_n 2, 1) := fo_dd DL_hasForecast_0 4 rfl
theorem dL_hasForecast_5 : decode cL_hasForecast 5 = .ok (.invokevirtual 78, 3) := fo_dd DL_hasForecast_0 5 rfl
theorem dL_hasForecast_8 : decode cL_hasForecast 8 = .ok (.ifCond .eq 7, 3) := fo_dd DL_hasForecast_0 6 rfl
theorem dL_hasForecast_11 : decode cL_hasForecast 11 = .ok (.lconst 1, 1) := fo_dd DL_hasForecast_0 7 rfl
theorem dL_hasForecast_12 : decode cL_hasForecast 12 = .ok (.goto 4, 3) := fo_dd DL_hasForecast_0 8 rfl
theorem dL_hasForecast_15 : decode cL_hasForecast 15 = .ok (.lconst 0, 1) := fo_dd DL_hasForecast_0 9 rfl
theorem dL_hasForecast_16 : decode cL_hasForecast 16 = .ok (.lastore, 1) := fo_dd DL_hasForecast_0 10 rfl
theorem dL_hasForecast_17 : decode cL_hasForecast 17 = .ok (.goto 7, 3) := fo_dd DL_hasForecast_0 11 rfl
theorem dL_hasForecast_20 : decode cL_hasForecast 20 = .ok (.astore 4, 2) := fo_dd DL_hasForecast_0 12 rfl
theorem dL_hasForecast_22 : decode cL_hasForecast 22 = .ok (.iconst 1, 1) := fo_dd DL_hasForecast_0 13 rfl
theorem dL_hasForecast_23 : decode cL_hasForecast 23 = .ok (.ireturn, 1) := fo_dd DL_hasForecast_0 14 rfl
theorem dL_hasForecast_24 : decode cL_hasForecast 24 = .ok (.iconst 0, 1) := fo_dd DL_hasForecast_0 15 rfl
theorem dL_hasForecast_25 : decode cL_hasForecast 25 = .ok (.ireturn, 1) := fo_dd DL_hasForecast_0 16 rfl
theorem DL_forecast_0 : fo_dl cL_forecast [(0, .aload_n 3, 1), (1, .iconst 0, 1), (2, .aload_n 0, 1), (3, .iload_n 1, 1), (4, .iload_n 2, 1), (5, .invokevirtual 81, 3), (8, .dastore, 1), (9, .goto 11, 3), (12, .astore 4, 2), (14, .iconst 1, 1), (15, .ireturn, 1), (16, .astore 4, 2), (18, .iconst 2, 1), (19, .ireturn, 1), (20, .iconst 0, 1), (21, .ireturn, 1)] := by decide +kernel
theorem dL_forecast_0 : decode cL_forecast 0 = .ok (.aload_n 3, 1) := fo_dd DL_forecast_0 0 rfl
theorem dL_forecast_1 : decode cL_forecast 1 = .ok (.iconst 0, 1) := fo_dd DL_forecast_0 1 rfl
theorem dL_forecast_2 : decode cL_forecast 2 = .ok (.aload_n 0, 1) := fo_dd DL_forecast_0 2 rfl
theorem dL_forecast_3 : decode cL_forecast 3 = .ok (.iload_n 1, 1) := fo_dd DL_forecast_0 3 rfl
theorem dL_forecast_4 : decode cL_forecast 4 = .ok (.iload_n 2, 1) := fo_dd DL_forecast_0 4 rfl
theorem dL_forecast_5 : decode cL_forecast 5 = .ok (.invokevirtual 81, 3) := fo_dd DL_forecast_0 5 rfl
theorem dL_forecast_8 : decode cL_forecast 8 = .ok (.dastore, 1) := fo_dd DL_forecast_0 6 rfl
theorem dL_forecast_9 : decode cL_forecast 9 = .ok (.goto 11, 3) := fo_dd DL_forecast_0 7 rfl
theorem dL_forecast_12 : decode cL_forecast 12 = .ok (.astore 4, 2) := fo_dd DL_forecast_0 8 rfl
theorem dL_forecast_14 : decode cL_forecast 14 = .ok (.iconst 1, 1) := fo_dd DL_forecast_0 9 rfl
theorem dL_forecast_15 : decode cL_forecast 15 = .ok (.ireturn, 1) := fo_dd DL_forecast_0 10 rfl
theorem dL_forecast_16 : decode cL_forecast 16 = .ok (.astore 4, 2) := fo_dd DL_forecast_0 11 rfl
theorem dL_forecast_18 : decode cL_forecast 18 = .ok (.iconst 2, 1) := fo_dd DL_forecast_0 12 rfl
theorem dL_forecast_19 : decode cL_forecast 19 = .ok (.ireturn, 1) := fo_dd DL_forecast_0 13 rfl
theorem dL_forecast_20 : decode cL_forecast 20 = .ok (.iconst 0, 1) := fo_dd DL_forecast_0 14 rfl
theorem dL_forecast_21 : decode cL_forecast 21 = .ok (.ireturn, 1) := fo_dd DL_forecast_0 15 rfl
theorem DL_forecastBits_0 : fo_dl cL_forecastBits [(0, .aload_n 3, 1), (1, .iconst 0, 1), (2, .aload_n 0, 1), (3, .iload_n 1, 1), (4, .iload_n 2, 1), (5, .invokevirtual 84, 3), (8, .lastore, 1), (9, .goto 11, 3), (12, .astore 4, 2), (14, .iconst 1, 1), (15, .ireturn, 1), (16, .astore 4, 2), (18, .iconst 2, 1), (19, .ireturn, 1), (20, .iconst 0, 1), (21, .ireturn, 1)] := by decide +kernel
theorem dL_forecastBits_0 : decode cL_forecastBits 0 = .ok (.aload_n 3, 1) := fo_dd DL_forecastBits_0 0 rfl
theorem dL_forecastBits_1 : decode cL_forecastBits 1 = .ok (.iconst 0, 1) := fo_dd DL_forecastBits_0 1 rfl
theorem dL_forecastBits_2 : decode cL_forecastBits 2 = .ok (.aload_n 0, 1) := fo_dd DL_forecastBits_0 2 rfl
theorem dL_forecastBits_3 : decode cL_forecastBits 3 = .ok (.iload_n 1, 1) := fo_dd DL_forecastBits_0 3 rfl
theorem dL_forecastBits_4 : decode cL_forecastBits 4 = .ok (.iload_n 2, 1) := fo_dd DL_forecastBits_0 4 rfl
theorem dL_forecastBits_5 : decode cL_forecastBits 5 = .ok (.invokevirtual 84, 3) := fo_dd DL_forecastBits_0 5 rfl
theorem dL_forecastBits_8 : decode cL_forecastBits 8 = .ok (.lastore, 1) := fo_dd DL_forecastBits_0 6 rfl
theorem dL_forecastBits_9 : decode cL_forecastBits 9 = .ok (.goto 11, 3) := fo_dd DL_forecastBits_0 7 rfl
theorem dL_forecastBits_12 : decode cL_forecastBits 12 = .ok (.astore 4, 2) := fo_dd DL_forecastBits_0 8 rfl
theorem dL_forecastBits_14 : decode cL_forecastBits 14 = .ok (.iconst 1, 1) := fo_dd DL_forecastBits_0 9 rfl
theorem dL_forecastBits_15 : decode cL_forecastBits 15 = .ok (.ireturn, 1) := fo_dd DL_forecastBits_0 10 rfl
theorem dL_forecastBits_16 : decode cL_forecastBits 16 = .ok (.astore 4, 2) := fo_dd DL_forecastBits_0 11 rfl
theorem dL_forecastBits_18 : decode cL_forecastBits 18 = .ok (.iconst 2, 1) := fo_dd DL_forecastBits_0 12 rfl
theorem dL_forecastBits_19 : decode cL_forecastBits 19 = .ok (.ireturn, 1) := fo_dd DL_forecastBits_0 13 rfl
theorem dL_forecastBits_20 : decode cL_forecastBits 20 = .ok (.iconst 0, 1) := fo_dd DL_forecastBits_0 14 rfl
theorem dL_forecastBits_21 : decode cL_forecastBits 21 = .ok (.ireturn, 1) := fo_dd DL_forecastBits_0 15 rfl
theorem DL_errors_0 : fo_dl cL_errors [(0, .aload_n 3, 1), (1, .iconst 0, 1), (2, .aload_n 0, 1), (3, .iload_n 1, 1), (4, .iload_n 2, 1), (5, .invokevirtual 88, 3), (8, .i2l, 1), (9, .lastore, 1), (10, .goto 7, 3), (13, .astore 4, 2), (15, .iconst 1, 1), (16, .ireturn, 1), (17, .iconst 0, 1), (18, .ireturn, 1)] := by decide +kernel
theorem dL_errors_0 : decode cL_errors 0 = .ok (.aload_n 3, 1) := fo_dd DL_errors_0 0 rfl
theorem dL_errors_1 : decode cL_errors 1 = .ok (.iconst 0, 1) := fo_dd DL_errors_0 1 rfl
theorem dL_errors_2 : decode cL_errors 2 = .ok (.aload_n 0, 1) := fo_dd DL_errors_0 2 rfl
theorem dL_errors_3 : decode cL_errors 3 = .ok (.iload_n 1, 1) := fo_dd DL_errors_0 3 rfl
theorem dL_errors_4 : decode cL_errors 4 = .ok (.iload_n 2, 1) := fo_dd DL_errors_0 4 rfl
theorem dL_errors_5 : decode cL_errors 5 = .ok (.invokevirtual 88, 3) := fo_dd DL_errors_0 5 rfl
theorem dL_errors_8 : decode cL_errors 8 = .ok (.i2l, 1) := fo_dd DL_errors_0 6 rfl
theorem dL_errors_9 : decode cL_errors 9 = .ok (.lastore, 1) := fo_dd DL_errors_0 7 rfl
theorem dL_errors_10 : decode cL_errors 10 = .ok (.goto 7, 3) := fo_dd DL_errors_0 8 rfl
theorem dL_errors_13 : decode cL_errors 13 = .ok (.astore 4, 2) := fo_dd DL_errors_0 9 rfl
theorem dL_errors_15 : decode cL_errors 15 = .ok (.iconst 1, 1) := fo_dd DL_errors_0 10 rfl
theorem dL_errors_16 : decode cL_errors 16 = .ok (.ireturn, 1) := fo_dd DL_errors_0 11 rfl
theorem dL_errors_17 : decode cL_errors 17 = .ok (.iconst 0, 1) := fo_dd DL_errors_0 12 rfl
theorem dL_errors_18 : decode cL_errors 18 = .ok (.ireturn, 1) := fo_dd DL_errors_0 13 rfl
theorem DL_errorSum_0 : fo_dl cL_errorSum [(0, .aload_n 3, 1), (1, .iconst 0, 1), (2, .aload_n 0, 1), (3, .iload_n 1, 1), (4, .iload_n 2, 1), (5, .invokevirtual 91, 3), (8, .dastore, 1), (9, .goto 7, 3), (12, .astore 4, 2), (14, .iconst 1, 1), (15, .ireturn, 1), (16, .iconst 0, 1), (17, .ireturn, 1)] := by decide +kernel
theorem dL_errorSum_0 : decode cL_errorSum 0 = .ok (.aload_n 3, 1) := fo_dd DL_errorSum_0 0 rfl
theorem dL_errorSum_1 : decode cL_errorSum 1 = .ok (.iconst 0, 1) := fo_dd DL_errorSum_0 1 rfl
theorem dL_errorSum_2 : decode cL_errorSum 2 = .ok (.aload_n 0, 1) := fo_dd DL_errorSum_0 2 rfl
theorem dL_errorSum_3 : decode cL_errorSum 3 = .ok (.iload_n 1, 1) := fo_dd DL_errorSum_0 3 rfl
theorem dL_errorSum_4 : decode cL_errorSum 4 = .ok (.iload_n 2, 1) := fo_dd DL_errorSum_0 4 rfl
theorem dL_errorSum_5 : decode cL_errorSum 5 = .ok (.invokevirtual 91, 3) := fo_dd DL_errorSum_0 5 rfl
theorem dL_errorSum_8 : decode cL_errorSum 8 = .ok (.dastore, 1) := fo_dd DL_errorSum_0 6 rfl
theorem dL_errorSum_9 : decode cL_errorSum 9 = .ok (.goto 7, 3) := fo_dd DL_errorSum_0 7 rfl
theorem dL_errorSum_12 : decode cL_errorSum 12 = .ok (.astore 4, 2) := fo_dd DL_errorSum_0 8 rfl
theorem dL_errorSum_14 : decode cL_errorSum 14 = .ok (.iconst 1, 1) := fo_dd DL_errorSum_0 9 rfl
theorem dL_errorSum_15 : decode cL_errorSum 15 = .ok (.ireturn, 1) := fo_dd DL_errorSum_0 10 rfl
theorem dL_errorSum_16 : decode cL_errorSum 16 = .ok (.iconst 0, 1) := fo_dd DL_errorSum_0 11 rfl
theorem dL_errorSum_17 : decode cL_errorSum 17 = .ok (.ireturn, 1) := fo_dd DL_errorSum_0 12 rfl
theorem DL_errorSumByBacktest_0 : fo_dl cL_errorSumByBacktest [(0, .aload_n 3, 1), (1, .iconst 0, 1), (2, .aload_n 0, 1), (3, .iload_n 1, 1), (4, .iload_n 2, 1), (5, .invokevirtual 94, 3), (8, .dastore, 1), (9, .goto 7, 3), (12, .astore 4, 2), (14, .iconst 1, 1), (15, .ireturn, 1), (16, .iconst 0, 1), (17, .ireturn, 1)] := by decide +kernel
theorem dL_errorSumByBacktest_0 : decode cL_errorSumByBacktest 0 = .ok (.aload_n 3, 1) := fo_dd DL_errorSumByBacktest_0 0 rfl
theorem dL_errorSumByBacktest_1 : decode cL_errorSumByBacktest 1 = .ok (.iconst 0, 1) := fo_dd DL_errorSumByBacktest_0 1 rfl
theorem dL_errorSumByBacktest_2 : decode cL_errorSumByBacktest 2 = .ok (.aload_n 0, 1) := fo_dd DL_errorSumByBacktest_0 2 rfl
theorem dL_errorSumByBacktest_3 : decode cL_errorSumByBacktest 3 = .ok (.iload_n 1, 1) := fo_dd DL_errorSumByBacktest_0 3 rfl
theorem dL_errorSumByBacktest_4 : decode cL_errorSumByBacktest 4 = .ok (.iload_n 2, 1) := fo_dd DL_errorSumByBacktest_0 4 rfl
theorem dL_errorSumByBacktest_5 : decode cL_errorSumByBacktest 5 = .ok (.invokevirtual 94, 3) := fo_dd DL_errorSumByBacktest_0 5 rfl
theorem dL_errorSumByBacktest_8 : decode cL_errorSumByBacktest 8 = .ok (.dastore, 1) := fo_dd DL_errorSumByBacktest_0 6 rfl
theorem dL_errorSumByBacktest_9 : decode cL_errorSumByBacktest 9 = .ok (.goto 7, 3) := fo_dd DL_errorSumByBacktest_0 7 rfl
theorem dL_errorSumByBacktest_12 : decode cL_errorSumByBacktest 12 = .ok (.astore 4, 2) := fo_dd DL_errorSumByBacktest_0 8 rfl
theorem dL_errorSumByBacktest_14 : decode cL_errorSumByBacktest 14 = .ok (.iconst 1, 1) := fo_dd DL_errorSumByBacktest_0 9 rfl
theorem dL_errorSumByBacktest_15 : decode cL_errorSumByBacktest 15 = .ok (.ireturn, 1) := fo_dd DL_errorSumByBacktest_0 10 rfl
theorem dL_errorSumByBacktest_16 : decode cL_errorSumByBacktest 16 = .ok (.iconst 0, 1) := fo_dd DL_errorSumByBacktest_0 11 rfl
theorem dL_errorSumByBacktest_17 : decode cL_errorSumByBacktest 17 = .ok (.ireturn, 1) := fo_dd DL_errorSumByBacktest_0 12 rfl
theorem DL_points_0 : fo_dl cL_points [(0, .aload_n 3, 1), (1, .iconst 0, 1), (2, .aload_n 0, 1), (3, .iload_n 1, 1), (4, .iload_n 2, 1), (5, .invokevirtual 97, 3), (8, .i2l, 1), (9, .lastore, 1), (10, .goto 7, 3), (13, .astore 4, 2), (15, .iconst 1, 1), (16, .ireturn, 1), (17, .iconst 0, 1), (18, .ireturn, 1)] := by decide +kernel
theorem dL_points_0 : decode cL_points 0 = .ok (.aload_n 3, 1) := fo_dd DL_points_0 0 rfl
theorem dL_points_1 : decode cL_points 1 = .ok (.iconst 0, 1) := fo_dd DL_points_0 1 rfl
theorem dL_points_2 : decode cL_points 2 = .ok (.aload_n 0, 1) := fo_dd DL_points_0 2 rfl
theorem dL_points_3 : decode cL_points 3 = .ok (.iload_n 1, 1) := fo_dd DL_points_0 3 rfl
theorem dL_points_4 : decode cL_points 4 = .ok (.iload_n 2, 1) := fo_dd DL_points_0 4 rfl
theorem dL_points_5 : decode cL_points 5 = .ok (.invokevirtual 97, 3) := fo_dd DL_points_0 5 rfl
theorem dL_points_8 : decode cL_points 8 = .ok (.i2l, 1) := fo_dd DL_points_0 6 rfl
theorem dL_points_9 : decode cL_points 9 = .ok (.lastore, 1) := fo_dd DL_points_0 7 rfl
theorem dL_points_10 : decode cL_points 10 = .ok (.goto 7, 3) := fo_dd DL_points_0 8 rfl
theorem dL_points_13 : decode cL_points 13 = .ok (.astore 4, 2) := fo_dd DL_points_0 9 rfl
theorem dL_points_15 : decode cL_points 15 = .ok (.iconst 1, 1) := fo_dd DL_points_0 10 rfl
theorem dL_points_16 : decode cL_points 16 = .ok (.ireturn, 1) := fo_dd DL_points_0 11 rfl
theorem dL_points_17 : decode cL_points 17 = .ok (.iconst 0, 1) := fo_dd DL_points_0 12 rfl
theorem dL_points_18 : decode cL_points 18 = .ok (.ireturn, 1) := fo_dd DL_points_0 13 rfl
theorem DL_meanError_0 : fo_dl cL_meanError [(0, .aload_n 2, 1), (1, .iconst 0, 1), (2, .aload_n 0, 1), (3, .iload_n 1, 1), (4, .invokevirtual 100, 3), (7, .dastore, 1), (8, .goto 9, 3), (11, .astore_n 3, 1), (12, .iconst 1, 1), (13, .ireturn, 1), (14, .astore_n 3, 1), (15, .iconst 2, 1), (16, .ireturn, 1), (17, .iconst 0, 1), (18, .ireturn, 1)] := by decide +kernel
theorem dL_meanError_0 : decode cL_meanError 0 = .ok (.aload_n 2, 1) := fo_dd DL_meanError_0 0 rfl
theorem dL_meanError_1 : decode cL_meanError 1 = .ok (.iconst 0, 1) := fo_dd DL_meanError_0 1 rfl
theorem dL_meanError_2 : decode cL_meanError 2 = .ok (.aload_n 0, 1) := fo_dd DL_meanError_0 2 rfl
theorem dL_meanError_3 : decode cL_meanError 3 = .ok (.iload_n 1, 1) := fo_dd DL_meanError_0 3 rfl
theorem dL_meanError_4 : decode cL_meanError 4 = .ok (.invokevirtual 100, 3) := fo_dd DL_meanError_0 4 rfl
theorem dL_meanError_7 : decode cL_meanError 7 = .ok (.dastore, 1) := fo_dd DL_meanError_0 5 rfl
theorem dL_meanError_8 : decode cL_meanError 8 = .ok (.goto 9, 3) := fo_dd DL_meanError_0 6 rfl
theorem dL_meanError_11 : decode cL_meanError 11 = .ok (.astore_n 3, 1) := fo_dd DL_meanError_0 7 rfl
theorem dL_meanError_12 : decode cL_meanError 12 = .ok (.iconst 1, 1) := fo_dd DL_meanError_0 8 rfl
theorem dL_meanError_13 : decode cL_meanError 13 = .ok (.ireturn, 1) := fo_dd DL_meanError_0 9 rfl
theorem dL_meanError_14 : decode cL_meanError 14 = .ok (.astore_n 3, 1) := fo_dd DL_meanError_0 10 rfl
theorem dL_meanError_15 : decode cL_meanError 15 = .ok (.iconst 2, 1) := fo_dd DL_meanError_0 11 rfl
theorem dL_meanError_16 : decode cL_meanError 16 = .ok (.ireturn, 1) := fo_dd DL_meanError_0 12 rfl
theorem dL_meanError_17 : decode cL_meanError 17 = .ok (.iconst 0, 1) := fo_dd DL_meanError_0 13 rfl
theorem dL_meanError_18 : decode cL_meanError 18 = .ok (.ireturn, 1) := fo_dd DL_meanError_0 14 rfl
theorem DL_prophetByPoints_0 : fo_dl cL_prophetByPoints [(0, .aload_n 2, 1), (1, .iconst 0, 1), (2, .aload_n 0, 1), (3, .iload_n 1, 1), (4, .invokevirtual 106, 3), (7, .i2l, 1), (8, .lastore, 1), (9, .goto 6, 3), (12, .astore_n 3, 1), (13, .iconst 1, 1), (14, .ireturn, 1), (15, .iconst 0, 1), (16, .ireturn, 1)] := by decide +kernel
theorem dL_prophetByPoints_0 : decode cL_prophetByPoints 0 = .ok (.aload_n 2, 1) := fo_dd DL_prophetByPoints_0 0 rfl
theorem dL_prophetByPoints_1 : decode cL_prophetByPoints 1 = .ok (.iconst 0, 1) := fo_dd DL_prophetByPoints_0 1 rfl
theorem dL_prophetByPoints_2 : decode cL_prophetByPoints 2 = .ok (.aload_n 0, 1) := fo_dd DL_prophetByPoints_0 2 rfl
theorem dL_prophetByPoints_3 : decode cL_prophetByPoints 3 = .ok (.iload_n 1, 1) := fo_dd DL_prophetByPoints_0 3 rfl
theorem dL_prophetByPoints_4 : decode cL_prophetByPoints 4 = .ok (.invokevirtual 106, 3) := fo_dd DL_prophetByPoints_0 4 rfl
theorem dL_prophetByPoints_7 : decode cL_prophetByPoints 7 = .ok (.i2l, 1) := fo_dd DL_prophetByPoints_0 5 rfl
theorem dL_prophetByPoints_8 : decode cL_prophetByPoints 8 = .ok (.lastore, 1) := fo_dd DL_prophetByPoints_0 6 rfl
theorem dL_prophetByPoints_9 : decode cL_prophetByPoints 9 = .ok (.goto 6, 3) := fo_dd DL_prophetByPoints_0 7 rfl
theorem dL_prophetByPoints_12 : decode cL_prophetByPoints 12 = .ok (.astore_n 3, 1) := fo_dd DL_prophetByPoints_0 8 rfl
theorem dL_prophetByPoints_13 : decode cL_prophetByPoints 13 = .ok (.iconst 1, 1) := fo_dd DL_prophetByPoints_0 9 rfl
theorem dL_prophetByPoints_14 : decode cL_prophetByPoints 14 = .ok (.ireturn, 1) := fo_dd DL_prophetByPoints_0 10 rfl
theorem dL_prophetByPoints_15 : decode cL_prophetByPoints 15 = .ok (.iconst 0, 1) := fo_dd DL_prophetByPoints_0 11 rfl
theorem dL_prophetByPoints_16 : decode cL_prophetByPoints 16 = .ok (.ireturn, 1) := fo_dd DL_prophetByPoints_0 12 rfl
theorem DL_bestProphet_0 : fo_dl cL_bestProphet [(0, .aload_n 1, 1), (1, .iconst 0, 1), (2, .aload_n 0, 1), (3, .invokevirtual 109, 3), (6, .i2l, 1), (7, .lastore, 1), (8, .goto 6, 3), (11, .astore_n 2, 1), (12, .iconst 1, 1), (13, .ireturn, 1), (14, .iconst 0, 1), (15, .ireturn, 1)] := by decide +kernel
theorem dL_bestProphet_0 : decode cL_bestProphet 0 = .ok (.aload_n 1, 1) := fo_dd DL_bestProphet_0 0 rfl
theorem dL_bestProphet_1 : decode cL_bestProphet 1 = .ok (.iconst 0, 1) := fo_dd DL_bestProphet_0 1 rfl
theorem dL_bestProphet_2 : decode cL_bestProphet 2 = .ok (.aload_n 0, 1) := fo_dd DL_bestProphet_0 2 rfl
theorem dL_bestProphet_3 : decode cL_bestProphet 3 = .ok (.invokevirtual 109, 3) := fo_dd DL_bestProphet_0 3 rfl
theorem dL_bestProphet_6 : decode cL_bestProphet 6 = .ok (.i2l, 1) := fo_dd DL_bestProphet_0 4 rfl
theorem dL_bestProphet_7 : decode cL_bestProphet 7 = .ok (.lastore, 1) := fo_dd DL_bestProphet_0 5 rfl
theorem dL_bestProphet_8 : decode cL_bestProphet 8 = .ok (.goto 6, 3) := fo_dd DL_bestProphet_0 6 rfl
theorem dL_bestProphet_11 : decode cL_bestProphet 11 = .ok (.astore_n 2, 1) := fo_dd DL_bestProphet_0 7 rfl
theorem dL_bestProphet_12 : decode cL_bestProphet 12 = .ok (.iconst 1, 1) := fo_dd DL_bestProphet_0 8 rfl
theorem dL_bestProphet_13 : decode cL_bestProphet 13 = .ok (.ireturn, 1) := fo_dd DL_bestProphet_0 9 rfl
theorem dL_bestProphet_14 : decode cL_bestProphet 14 = .ok (.iconst 0, 1) := fo_dd DL_bestProphet_0 10 rfl
theorem dL_bestProphet_15 : decode cL_bestProphet 15 = .ok (.ireturn, 1) := fo_dd DL_bestProphet_0 11 rfl
theorem DL_outlierShare_0 : fo_dl cL_outlierShare [(0, .aload_n 1, 1), (1, .iconst 0, 1), (2, .aload_n 0, 1), (3, .invokevirtual 113, 3), (6, .f2d, 1), (7, .dastore, 1), (8, .goto 6, 3), (11, .astore_n 2, 1), (12, .iconst 1, 1), (13, .ireturn, 1), (14, .iconst 0, 1), (15, .ireturn, 1)] := by decide +kernel
theorem dL_outlierShare_0 : decode cL_outlierShare 0 = .ok (.aload_n 1, 1) := fo_dd DL_outlierShare_0 0 rfl
theorem dL_outlierShare_1 : decode cL_outlierShare 1 = .ok (.iconst 0, 1) := fo_dd DL_outlierShare_0 1 rfl
theorem dL_outlierShare_2 : decode cL_outlierShare 2 = .ok (.aload_n 0, 1) := fo_dd DL_outlierShare_0 2 rfl
theorem dL_outlierShare_3 : decode cL_outlierShare 3 = .ok (.invokevirtual 113, 3) := fo_dd DL_outlierShare_0 3 rfl
theorem dL_outlierShare_6 : decode cL_outlierShare 6 = .ok (.f2d, 1) := fo_dd DL_outlierShare_0 4 rfl
theorem dL_outlierShare_7 : decode cL_outlierShare 7 = .ok (.dastore, 1) := fo_dd DL_outlierShare_0 5 rfl
theorem dL_outlierShare_8 : decode cL_outlierShare 8 = .ok (.goto 6, 3) := fo_dd DL_outlierShare_0 6 rfl
theorem dL_outlierShare_11 : decode cL_outlierShare 11 = .ok (.astore_n 2, 1) := fo_dd DL_outlierShare_0 7 rfl
theorem dL_outlierShare_12 : decode cL_outlierShare 12 = .ok (.iconst 1, 1) := fo_dd DL_outlierShare_0 8 rfl
theorem dL_outlierShare_13 : decode cL_outlierShare 13 = .ok (.ireturn, 1) := fo_dd DL_outlierShare_0 9 rfl
theorem dL_outlierShare_14 : decode cL_outlierShare 14 = .ok (.iconst 0, 1) := fo_dd DL_outlierShare_0 10 rfl
theorem dL_outlierShare_15 : decode cL_outlierShare 15 = .ok (.ireturn, 1) := fo_dd DL_outlierShare_0 11 rfl
theorem DL_writeSeries_0 : fo_dl cL_writeSeries [(0, .aload_n 2, 1), (1, .iconst 0, 1), (2, .aload_n 0, 1), (3, .iload_n 1, 1), (4, .invokevirtual 117, 3), (7, .i2l, 1), (8, .lastore, 1), (9, .goto 6, 3), (12, .astore_n 3, 1), (13, .iconst 1, 1), (14, .ireturn, 1), (15, .iconst 0, 1), (16, .ireturn, 1)] := by decide +kernel
theorem dL_writeSeries_0 : decode cL_writeSeries 0 = .ok (.aload_n 2, 1) := fo_dd DL_writeSeries_0 0 rfl
theorem dL_writeSeries_1 : decode cL_writeSeries 1 = .ok (.iconst 0, 1) := fo_dd DL_writeSeries_0 1 rfl
theorem dL_writeSeries_2 : decode cL_writeSeries 2 = .ok (.aload_n 0, 1) := fo_dd DL_writeSeries_0 2 rfl
theorem dL_writeSeries_3 : decode cL_writeSeries 3 = .ok (.iload_n 1, 1) := fo_dd DL_writeSeries_0 3 rfl
theorem dL_writeSeries_4 : decode cL_writeSeries 4 = .ok (.invokevirtual 117, 3) := fo_dd DL_writeSeries_0 4 rfl
theorem dL_writeSeries_7 : decode cL_writeSeries 7 = .ok (.i2l, 1) := fo_dd DL_writeSeries_0 5 rfl
theorem dL_writeSeries_8 : decode cL_writeSeries 8 = .ok (.lastore, 1) := fo_dd DL_writeSeries_0 6 rfl
theorem dL_writeSeries_9 : decode cL_writeSeries 9 = .ok (.goto 6, 3) := fo_dd DL_writeSeries_0 7 rfl
theorem dL_writeSeries_12 : decode cL_writeSeries 12 = .ok (.astore_n 3, 1) := fo_dd DL_writeSeries_0 8 rfl
theorem dL_writeSeries_13 : decode cL_writeSeries 13 = .ok (.iconst 1, 1) := fo_dd DL_writeSeries_0 9 rfl
theorem dL_writeSeries_14 : decode cL_writeSeries 14 = .ok (.ireturn, 1) := fo_dd DL_writeSeries_0 10 rfl
theorem dL_writeSeries_15 : decode cL_writeSeries 15 = .ok (.iconst 0, 1) := fo_dd DL_writeSeries_0 11 rfl
theorem dL_writeSeries_16 : decode cL_writeSeries 16 = .ok (.ireturn, 1) := fo_dd DL_writeSeries_0 12 rfl
theorem DL_charAt_0 : fo_dl cL_charAt [(0, .aload_n 2, 1), (1, .iconst 0, 1), (2, .aload_n 0, 1), (3, .iload_n 1, 1), (4, .invokevirtual 120, 3), (7, .i2l, 1), (8, .lastore, 1), (9, .goto 6, 3), (12, .astore_n 3, 1), (13, .iconst 1, 1), (14, .ireturn, 1), (15, .iconst 0, 1), (16, .ireturn, 1)] := by decide +kernel
theorem dL_charAt_0 : decode cL_charAt 0 = .ok (.aload_n 2, 1) := fo_dd DL_charAt_0 0 rfl
theorem dL_charAt_1 : decode cL_charAt 1 = .ok (.iconst 0, 1) := fo_dd DL_charAt_0 1 rfl
theorem dL_charAt_2 : decode cL_charAt 2 = .ok (.aload_n 0, 1) := fo_dd DL_charAt_0 2 rfl
theorem dL_charAt_3 : decode cL_charAt 3 = .ok (.iload_n 1, 1) := fo_dd DL_charAt_0 3 rfl
theorem dL_charAt_4 : decode cL_charAt 4 = .ok (.invokevirtual 120, 3) := fo_dd DL_charAt_0 4 rfl
theorem dL_charAt_7 : decode cL_charAt 7 = .ok (.i2l, 1) := fo_dd DL_charAt_0 5 rfl
theorem dL_charAt_8 : decode cL_charAt 8 = .ok (.lastore, 1) := fo_dd DL_charAt_0 6 rfl
theorem dL_charAt_9 : decode cL_charAt 9 = .ok (.goto 6, 3) := fo_dd DL_charAt_0 7 rfl
theorem dL_charAt_12 : decode cL_charAt 12 = .ok (.astore_n 3, 1) := fo_dd DL_charAt_0 8 rfl
theorem dL_charAt_13 : decode cL_charAt 13 = .ok (.iconst 1, 1) := fo_dd DL_charAt_0 9 rfl
theorem dL_charAt_14 : decode cL_charAt 14 = .ok (.ireturn, 1) := fo_dd DL_charAt_0 10 rfl
theorem dL_charAt_15 : decode cL_charAt 15 = .ok (.iconst 0, 1) := fo_dd DL_charAt_0 11 rfl
theorem dL_charAt_16 : decode cL_charAt 16 = .ok (.ireturn, 1) := fo_dd DL_charAt_0 12 rfl
theorem DL_type_0 : fo_dl cL_type [(0, .aload_n 2, 1), (1, .iconst 0, 1), (2, .aload_n 0, 1), (3, .iload_n 1, 1), (4, .invokevirtual 123, 3), (7, .i2l, 1), (8, .lastore, 1), (9, .goto 6, 3), (12, .astore_n 3, 1), (13, .iconst 1, 1), (14, .ireturn, 1), (15, .iconst 0, 1), (16, .ireturn, 1)] := by decide +kernel
theorem dL_type_0 : decode cL_type 0 = .ok (.aload_n 2, 1) := fo_dd DL_type_0 0 rfl
theorem dL_type_1 : decode cL_type 1 = .ok (.iconst 0, 1) := fo_dd DL_type_0 1 rfl
theorem dL_type_2 : decode cL_type 2 = .ok (.aload_n 0, 1) := fo_dd DL_type_0 2 rfl
theorem dL_type_3 : decode cL_type 3 = .ok (.iload_n 1, 1) := fo_dd DL_type_0 3 rfl
theorem dL_type_4 : decode cL_type 4 = .ok (.invokevirtual 123, 3) := fo_dd DL_type_0 4 rfl
theorem dL_type_7 : decode cL_type 7 = .ok (.i2l, 1) := fo_dd DL_type_0 5 rfl
theorem dL_type_8 : decode cL_type 8 = .ok (.lastore, 1) := fo_dd DL_type_0 6 rfl
theorem dL_type_9 : decode cL_type 9 = .ok (.goto 6, 3) := fo_dd DL_type_0 7 rfl
theorem dL_type_12 : decode cL_type 12 = .ok (.astore_n 3, 1) := fo_dd DL_type_0 8 rfl
theorem dL_type_13 : decode cL_type 13 = .ok (.iconst 1, 1) := fo_dd DL_type_0 9 rfl
theorem dL_type_14 : decode cL_type 14 = .ok (.ireturn, 1) := fo_dd DL_type_0 10 rfl
theorem dL_type_15 : decode cL_type 15 = .ok (.iconst 0, 1) := fo_dd DL_type_0 11 rfl
theorem dL_type_16 : decode cL_type 16 = .ok (.ireturn, 1) := fo_dd DL_type_0 12 rfl
theorem DL_run_0 : fo_dl cL_run [(0, .aload_n 1, 1), (1, .iconst 0, 1), (2, .aload_n 0, 1), (3, .invokevirtual 127, 3), (6, .i2l, 1), (7, .lastore, 1), (8, .goto 9, 3), (11, .astore_n 2, 1), (12, .iconst 1, 1), (13, .ireturn, 1), (14, .astore_n 2, 1), (15, .iconst 2, 1), (16, .ireturn, 1), (17, .iconst 0, 1), (18, .ireturn, 1)] := by decide +kernel
theorem dL_run_0 : decode cL_run 0 = .ok (.aload_n 1, 1) := fo_dd DL_run_0 0 rfl
theorem dL_run_1 : decode cL_run 1 = .ok (.iconst 0, 1) := fo_dd DL_run_0 1 rfl
theorem dL_run_2 : decode cL_run 2 = .ok (.aload_n 0, 1) := fo_dd DL_run_0 2 rfl
theorem dL_run_3 : decode cL_run 3 = .ok (.invokevirtual 127, 3) := fo_dd DL_run_0 3 rfl
theorem dL_run_6 : decode cL_run 6 = .ok (.i2l, 1) := fo_dd DL_run_0 4 rfl
theorem dL_run_7 : decode cL_run 7 = .ok (.lastore, 1) := fo_dd DL_run_0 5 rfl
theorem dL_run_8 : decode cL_run 8 = .ok (.goto 9, 3) := fo_dd DL_run_0 6 rfl
theorem dL_run_11 : decode cL_run 11 = .ok (.astore_n 2, 1) := fo_dd DL_run_0 7 rfl
theorem dL_run_12 : decode cL_run 12 = .ok (.iconst 1, 1) := fo_dd DL_run_0 8 rfl
theorem dL_run_13 : decode cL_run 13 = .ok (.ireturn, 1) := fo_dd DL_run_0 9 rfl
theorem dL_run_14 : decode cL_run 14 = .ok (.astore_n 2, 1) := fo_dd DL_run_0 10 rfl
theorem dL_run_15 : decode cL_run 15 = .ok (.iconst 2, 1) := fo_dd DL_run_0 11 rfl
theorem dL_run_16 : decode cL_run 16 = .ok (.ireturn, 1) := fo_dd DL_run_0 12 rfl
theorem dL_run_17 : decode cL_run 17 = .ok (.iconst 0, 1) := fo_dd DL_run_0 13 rfl
theorem dL_run_18 : decode cL_run 18 = .ok (.ireturn, 1) := fo_dd DL_run_0 14 rfl
theorem DL_errorPosition_0 : fo_dl cL_errorPosition [(0, .aload_n 1, 1), (1, .iconst 0, 1), (2, .aload_n 0, 1), (3, .invokevirtual 132, 3), (6, .i2l, 1), (7, .lastore, 1), (8, .goto 6, 3), (11, .astore_n 2, 1), (12, .iconst 1, 1), (13, .ireturn, 1), (14, .iconst 0, 1), (15, .ireturn, 1)] := by decide +kernel
theorem dL_errorPosition_0 : decode cL_errorPosition 0 = .ok (.aload_n 1, 1) := fo_dd DL_errorPosition_0 0 rfl
theorem dL_errorPosition_1 : decode cL_errorPosition 1 = .ok (.iconst 0, 1) := fo_dd DL_errorPosition_0 1 rfl
theorem dL_errorPosition_2 : decode cL_errorPosition 2 = .ok (.aload_n 0, 1) := fo_dd DL_errorPosition_0 2 rfl
theorem dL_errorPosition_3 : decode cL_errorPosition 3 = .ok (.invokevirtual 132, 3) := fo_dd DL_errorPosition_0 3 rfl
theorem dL_errorPosition_6 : decode cL_errorPosition 6 = .ok (.i2l, 1) := fo_dd DL_errorPosition_0 4 rfl
theorem dL_errorPosition_7 : decode cL_errorPosition 7 = .ok (.lastore, 1) := fo_dd DL_errorPosition_0 5 rfl
theorem dL_errorPosition_8 : decode cL_errorPosition 8 = .ok (.goto 6, 3) := fo_dd DL_errorPosition_0 6 rfl
theorem dL_errorPosition_11 : decode cL_errorPosition 11 = .ok (.astore_n 2, 1) := fo_dd DL_errorPosition_0 7 rfl
theorem dL_errorPosition_12 : decode cL_errorPosition 12 = .ok (.iconst 1, 1) := fo_dd DL_errorPosition_0 8 rfl
theorem dL_errorPosition_13 : decode cL_errorPosition 13 = .ok (.ireturn, 1) := fo_dd DL_errorPosition_0 9 rfl
theorem dL_errorPosition_14 : decode cL_errorPosition 14 = .ok (.iconst 0, 1) := fo_dd DL_errorPosition_0 10 rfl
theorem dL_errorPosition_15 : decode cL_errorPosition 15 = .ok (.ireturn, 1) := fo_dd DL_errorPosition_0 11 rfl
theorem DL_failedCommand_0 : fo_dl cL_failedCommand [(0, .aload_n 1, 1), (1, .iconst 0, 1), (2, .aload_n 0, 1), (3, .invokevirtual 135, 3), (6, .i2l, 1), (7, .lastore, 1), (8, .goto 6, 3), (11, .astore_n 2, 1), (12, .iconst 1, 1), (13, .ireturn, 1), (14, .iconst 0, 1), (15, .ireturn, 1)] := by decide +kernel
theorem dL_failedCommand_0 : decode cL_failedCommand 0 = .ok (.aload_n 1, 1) := fo_dd DL_failedCommand_0 0 rfl
theorem dL_failedCommand_1 : decode cL_failedCommand 1 = .ok (.iconst 0, 1) := fo_dd DL_failedCommand_0 1 rfl
theorem dL_failedCommand_2 : decode cL_failedCommand 2 = .ok (.aload_n 0, 1) := fo_dd DL_failedCommand_0 2 rfl
theorem dL_failedCommand_3 : decode cL_failedCommand 3 = .ok (.invokevirtual 135, 3) := fo_dd DL_failedCommand_0 3 rfl
theorem dL_failedCommand_6 : decode cL_failedCommand 6 = .ok (.i2l, 1) := fo_dd DL_failedCommand_0 4 rfl
theorem dL_failedCommand_7 : decode cL_failedCommand 7 = .ok (.lastore, 1) := fo_dd DL_failedCommand_0 5 rfl
theorem dL_failedCommand_8 : decode cL_failedCommand 8 = .ok (.goto 6, 3) := fo_dd DL_failedCommand_0 6 rfl
theorem dL_failedCommand_11 : decode cL_failedCommand 11 = .ok (.astore_n 2, 1) := fo_dd DL_failedCommand_0 7 rfl
theorem dL_failedCommand_12 : decode cL_failedCommand 12 = .ok (.iconst 1, 1) := fo_dd DL_failedCommand_0 8 rfl
theorem dL_failedCommand_13 : decode cL_failedCommand 13 = .ok (.ireturn, 1) := fo_dd DL_failedCommand_0 9 rfl
theorem dL_failedCommand_14 : decode cL_failedCommand 14 = .ok (.iconst 0, 1) := fo_dd DL_failedCommand_0 10 rfl
theorem dL_failedCommand_15 : decode cL_failedCommand 15 = .ok (.ireturn, 1) := fo_dd DL_failedCommand_0 11 rfl
theorem DL_undo_0 : fo_dl cL_undo [(0, .aload_n 1, 1), (1, .iconst 0, 1), (2, .aload_n 0, 1), (3, .invokevirtual 138, 3), (6, .i2l, 1), (7, .lastore, 1), (8, .goto 6, 3), (11, .astore_n 2, 1), (12, .iconst 1, 1), (13, .ireturn, 1), (14, .iconst 0, 1), (15, .ireturn, 1)] := by decide +kernel
theorem dL_undo_0 : decode cL_undo 0 = .ok (.aload_n 1, 1) := fo_dd DL_undo_0 0 rfl
theorem dL_undo_1 : decode cL_undo 1 = .ok (.iconst 0, 1) := fo_dd DL_undo_0 1 rfl
theorem dL_undo_2 : decode cL_undo 2 = .ok (.aload_n 0, 1) := fo_dd DL_undo_0 2 rfl
theorem dL_undo_3 : decode cL_undo 3 = .ok (.invokevirtual 138, 3) := fo_dd DL_undo_0 3 rfl
theorem dL_undo_6 : decode cL_undo 6 = .ok (.i2l, 1) := fo_dd DL_undo_0 4 rfl
theorem dL_undo_7 : decode cL_undo 7 = .ok (.lastore, 1) := fo_dd DL_undo_0 5 rfl
theorem dL_undo_8 : decode cL_undo 8 = .ok (.goto 6, 3) := fo_dd DL_undo_0 6 rfl
theorem dL_undo_11 : decode cL_undo 11 = .ok (.astore_n 2, 1) := fo_dd DL_undo_0 7 rfl
theorem dL_undo_12 : decode cL_undo 12 = .ok (.iconst 1, 1) := fo_dd DL_undo_0 8 rfl
theorem dL_undo_13 : decode cL_undo 13 = .ok (.ireturn, 1) := fo_dd DL_undo_0 9 rfl
theorem dL_undo_14 : decode cL_undo 14 = .ok (.iconst 0, 1) := fo_dd DL_undo_0 10 rfl
theorem dL_undo_15 : decode cL_undo 15 = .ok (.ireturn, 1) := fo_dd DL_undo_0 11 rfl
theorem DL_restore_0 : fo_dl cL_restore [(0, .aload_n 1, 1), (1, .iconst 0, 1), (2, .aload_n 0, 1), (3, .invokevirtual 141, 3), (6, .i2l, 1), (7, .lastore, 1), (8, .goto 6, 3), (11, .astore_n 2, 1), (12, .iconst 1, 1), (13, .ireturn, 1), (14, .iconst 0, 1), (15, .ireturn, 1)] := by decide +kernel
theorem dL_restore_0 : decode cL_restore 0 = .ok (.aload_n 1, 1) := fo_dd DL_restore_0 0 rfl
theorem dL_restore_1 : decode cL_restore 1 = .ok (.iconst 0, 1) := fo_dd DL_restore_0 1 rfl
theorem dL_restore_2 : decode cL_restore 2 = .ok (.aload_n 0, 1) := fo_dd DL_restore_0 2 rfl
theorem dL_restore_3 : decode cL_restore 3 = .ok (.invokevirtual 141, 3) := fo_dd DL_restore_0 3 rfl
theorem dL_restore_6 : decode cL_restore 6 = .ok (.i2l, 1) := fo_dd DL_restore_0 4 rfl
theorem dL_restore_7 : decode cL_restore 7 = .ok (.lastore, 1) := fo_dd DL_restore_0 5 rfl
theorem dL_restore_8 : decode cL_restore 8 = .ok (.goto 6, 3) := fo_dd DL_restore_0 6 rfl
theorem dL_restore_11 : decode cL_restore 11 = .ok (.astore_n 2, 1) := fo_dd DL_restore_0 7 rfl
theorem dL_restore_12 : decode cL_restore 12 = .ok (.iconst 1, 1) := fo_dd DL_restore_0 8 rfl
theorem dL_restore_13 : decode cL_restore 13 = .ok (.ireturn, 1) := fo_dd DL_restore_0 9 rfl
theorem dL_restore_14 : decode cL_restore 14 = .ok (.iconst 0, 1) := fo_dd DL_restore_0 10 rfl
theorem dL_restore_15 : decode cL_restore 15 = .ok (.ireturn, 1) := fo_dd DL_restore_0 11 rfl
theorem DL_law_0 : fo_dl cL_law [(0, .new 8, 3), (3, .dup, 1), (4, .invokespecial 144, 3), (7, .astore_n 1, 1), (8, .new 145, 3), (11, .dup, 1), (12, .invokespecial 147, 3), (15, .astore_n 2, 1), (16, .iconst 1, 1), (17, .newarray .long, 2), (19, .astore_n 3, 1), (20, .iconst 1, 1), (21, .newarray .double, 2), (23, .astore 4, 2), (25, .iconst 0, 1), (26, .istore 5, 2), (28, .iload 5, 2), (30, .aload_n 0, 1), (31, .arraylength, 1), (32, .iconst 4, 1), (33, .isub, 1), (34, .if_icmp .gt 2655, 3), (37, .aload_n 0, 1), (38, .iload 5, 2), (40, .iaload, 1), (41, .bipush 63, 2), (43, .iand, 1), (44, .tableswitch 2639 0 41 #[184, 254, 322, 378, 434, 490, 558, 614, 703, 792, 860, 928, 1017, 1092, 1148, 1204, 1284, 1297, 1310, 1366, 1422, 1497, 1586, 1653, 1721, 1810, 1899, 1967, 2044, 2100, 2144, 2210, 2223, 2279, 2292, 2348, 2406, 2450, 2494, 2538, 2582, 2595], 184), (228, .aload_n 1, 1), (229, .aload_n 0, 1), (230, .iload 5, 2), (232, .iconst 1, 1), (233, .iadd, 1), (234, .iaload, 1), (235, .i2c, 1), (236, .aload_n 0, 1), (237, .iload 5, 2), (239, .iconst 2, 1), (240, .iadd, 1), (241, .iaload, 1), (242, .aload_n 3, 1), (243, .invokestatic 148, 3), (246, .istore 6, 2), (248, .aload_n 2, 1), (249, .aload_n 0, 1), (250, .iload 5, 2), (252, .iconst 1, 1), (253, .iadd, 1), (254, .iaload, 1), (255, .i2c, 1), (256, .aload_n 0, 1), (257, .iload 5, 2), (259, .iconst 2, 1), (260, .iadd, 1), (261, .iaload, 1), (262, .invokevirtual 153, 3), (265, .istore 7, 2), (267, .aload_n 2, 1), (268, .invokevirtual 154, 3), (271, .iload 6, 2), (273, .if_icmp .eq 5, 3), (276, .iconst 0, 1), (277, .ireturn, 1), (278, .iload 6, 2)] := by decide +kernel
theorem dL_law_0 : decode cL_law 0 = .ok (.new 8, 3) := fo_dd DL_law_0 0 rfl
theorem dL_law_3 : decode cL_law 3 = .ok (.dup, 1) := fo_dd DL_law_0 1 rfl
theorem dL_law_4 : decode cL_law 4 = .ok (.invokespecial 144, 3) := fo_dd DL_law_0 2 rfl
theorem dL_law_7 : decode cL_law 7 = .ok (.astore_n 1, 1) := fo_dd DL_law_0 3 rfl
theorem dL_law_8 : decode cL_law 8 = .ok (.new 145, 3) := fo_dd DL_law_0 4 rfl
theorem dL_law_11 : decode cL_law 11 = .ok (.dup, 1) := fo_dd DL_law_0 5 rfl
theorem dL_law_12 : decode cL_law 12 = .ok (.invokespecial 147, 3) := fo_dd DL_law_0 6 rfl
theorem dL_law_15 : decode cL_law 15 = .ok (.astore_n 2, 1) := fo_dd DL_law_0 7 rfl
theorem dL_law_16 : decode cL_law 16 = .ok (.iconst 1, 1) := fo_dd DL_law_0 8 rfl
theorem dL_law_17 : decode cL_law 17 = .ok (.newarray .long, 2) := fo_dd DL_law_0 9 rfl
theorem dL_law_19 : decode cL_law 19 = .ok (.astore_n 3, 1) := fo_dd DL_law_0 10 rfl
theorem dL_law_20 : decode cL_law 20 = .ok (.iconst 1, 1) := fo_dd DL_law_0 11 rfl
theorem dL_law_21 : decode cL_law 21 = .ok (.newarray .double, 2) := fo_dd DL_law_0 12 rfl
theorem dL_law_23 : decode cL_law 23 = .ok (.astore 4, 2) := fo_dd DL_law_0 13 rfl
theorem dL_law_25 : decode cL_law 25 = .ok (.iconst 0, 1) := fo_dd DL_law_0 14 rfl
theorem dL_law_26 : decode cL_law 26 = .ok (.istore 5, 2) := fo_dd DL_law_0 15 rfl
theorem dL_law_28 : decode cL_law 28 = .ok (.iload 5, 2) := fo_dd DL_law_0 16 rfl
theorem dL_law_30 : decode cL_law 30 = .ok (.aload_n 0, 1) := fo_dd DL_law_0 17 rfl
theorem dL_law_31 : decode cL_law 31 = .ok (.arraylength, 1) := fo_dd DL_law_0 18 rfl
theorem dL_law_32 : decode cL_law 32 = .ok (.iconst 4, 1) := fo_dd DL_law_0 19 rfl
theorem dL_law_33 : decode cL_law 33 = .ok (.isub, 1) := fo_dd DL_law_0 20 rfl
theorem dL_law_34 : decode cL_law 34 = .ok (.if_icmp .gt 2655, 3) := fo_dd DL_law_0 21 rfl
theorem dL_law_37 : decode cL_law 37 = .ok (.aload_n 0, 1) := fo_dd DL_law_0 22 rfl
theorem dL_law_38 : decode cL_law 38 = .ok (.iload 5, 2) := fo_dd DL_law_0 23 rfl
theorem dL_law_40 : decode cL_law 40 = .ok (.iaload, 1) := fo_dd DL_law_0 24 rfl
theorem dL_law_41 : decode cL_law 41 = .ok (.bipush 63, 2) := fo_dd DL_law_0 25 rfl
theorem dL_law_43 : decode cL_law 43 = .ok (.iand, 1) := fo_dd DL_law_0 26 rfl
theorem dL_law_44 : decode cL_law 44 = .ok (.tableswitch 2639 0 41 #[184, 254, 322, 378, 434, 490, 558, 614, 703, 792, 860, 928, 1017, 1092, 1148, 1204, 1284, 1297, 1310, 1366, 1422, 1497, 1586, 1653, 1721, 1810, 1899, 1967, 2044, 2100, 2144, 2210, 2223, 2279, 2292, 2348, 2406, 2450, 2494, 2538, 2582, 2595], 184) := fo_dd DL_law_0 27 rfl
theorem dL_law_228 : decode cL_law 228 = .ok (.aload_n 1, 1) := fo_dd DL_law_0 28 rfl
theorem dL_law_229 : decode cL_law 229 = .ok (.aload_n 0, 1) := fo_dd DL_law_0 29 rfl
theorem dL_law_230 : decode cL_law 230 = .ok (.iload 5, 2) := fo_dd DL_law_0 30 rfl
theorem dL_law_232 : decode cL_law 232 = .ok (.iconst 1, 1) := fo_dd DL_law_0 31 rfl
theorem dL_law_233 : decode cL_law 233 = .ok (.iadd, 1) := fo_dd DL_law_0 32 rfl
theorem dL_law_234 : decode cL_law 234 = .ok (.iaload, 1) := fo_dd DL_law_0 33 rfl
theorem dL_law_235 : decode cL_law 235 = .ok (.i2c, 1) := fo_dd DL_law_0 34 rfl
theorem dL_law_236 : decode cL_law 236 = .ok (.aload_n 0, 1) := fo_dd DL_law_0 35 rfl
theorem dL_law_237 : decode cL_law 237 = .ok (.iload 5, 2) := fo_dd DL_law_0 36 rfl
theorem dL_law_239 : decode cL_law 239 = .ok (.iconst 2, 1) := fo_dd DL_law_0 37 rfl
theorem dL_law_240 : decode cL_law 240 = .ok (.iadd, 1) := fo_dd DL_law_0 38 rfl
theorem dL_law_241 : decode cL_law 241 = .ok (.iaload, 1) := fo_dd DL_law_0 39 rfl
theorem dL_law_242 : decode cL_law 242 = .ok (.aload_n 3, 1) := fo_dd DL_law_0 40 rfl
theorem dL_law_243 : decode cL_law 243 = .ok (.invokestatic 148, 3) := fo_dd DL_law_0 41 rfl
theorem dL_law_246 : decode cL_law 246 = .ok (.istore 6, 2) := fo_dd DL_law_0 42 rfl
theorem dL_law_248 : decode cL_law 248 = .ok (.aload_n 2, 1) := fo_dd DL_law_0 43 rfl
theorem dL_law_249 : decode cL_law 249 = .ok (.aload_n 0, 1) := fo_dd DL_law_0 44 rfl
theorem dL_law_250 : decode cL_law 250 = .ok (.iload 5, 2) := fo_dd DL_law_0 45 rfl
theorem dL_law_252 : decode cL_law 252 = .ok (.iconst 1, 1) := fo_dd DL_law_0 46 rfl
theorem dL_law_253 : decode cL_law 253 = .ok (.iadd, 1) := fo_dd DL_law_0 47 rfl
theorem dL_law_254 : decode cL_law 254 = .ok (.iaload, 1) := fo_dd DL_law_0 48 rfl
theorem dL_law_255 : decode cL_law 255 = .ok (.i2c, 1) := fo_dd DL_law_0 49 rfl
theorem dL_law_256 : decode cL_law 256 = .ok (.aload_n 0, 1) := fo_dd DL_law_0 50 rfl
theorem dL_law_257 : decode cL_law 257 = .ok (.iload 5, 2) := fo_dd DL_law_0 51 rfl
theorem dL_law_259 : decode cL_law 259 = .ok (.iconst 2, 1) := fo_dd DL_law_0 52 rfl
theorem dL_law_260 : decode cL_law 260 = .ok (.iadd, 1) := fo_dd DL_law_0 53 rfl
theorem dL_law_261 : decode cL_law 261 = .ok (.iaload, 1) := fo_dd DL_law_0 54 rfl
theorem dL_law_262 : decode cL_law 262 = .ok (.invokevirtual 153, 3) := fo_dd DL_law_0 55 rfl
theorem dL_law_265 : decode cL_law 265 = .ok (.istore 7, 2) := fo_dd DL_law_0 56 rfl
theorem dL_law_267 : decode cL_law 267 = .ok (.aload_n 2, 1) := fo_dd DL_law_0 57 rfl
theorem dL_law_268 : decode cL_law 268 = .ok (.invokevirtual 154, 3) := fo_dd DL_law_0 58 rfl
theorem dL_law_271 : decode cL_law 271 = .ok (.iload 6, 2) := fo_dd DL_law_0 59 rfl
theorem dL_law_273 : decode cL_law 273 = .ok (.if_icmp .eq 5, 3) := fo_dd DL_law_0 60 rfl
theorem dL_law_276 : decode cL_law 276 = .ok (.iconst 0, 1) := fo_dd DL_law_0 61 rfl
theorem dL_law_277 : decode cL_law 277 = .ok (.ireturn, 1) := fo_dd DL_law_0 62 rfl
theorem dL_law_278 : decode cL_law 278 = .ok (.iload 6, 2) := fo_dd DL_law_0 63 rfl
theorem DL_law_1 : fo_dl cL_law [(280, .ifCond .ne 15, 3), (283, .aload_n 3, 1), (284, .iconst 0, 1), (285, .laload, 1), (286, .iload 7, 2), (288, .i2l, 1), (289, .lcmp, 1), (290, .ifCond .eq 5, 3), (293, .iconst 0, 1), (294, .ireturn, 1), (295, .goto 2388, 3), (298, .aload_n 1, 1), (299, .aload_n 0, 1), (300, .iload 5, 2), (302, .iconst 1, 1), (303, .iadd, 1), (304, .iaload, 1), (305, .aload_n 0, 1), (306, .iload 5, 2), (308, .iconst 2, 1), (309, .iadd, 1), (310, .iaload, 1), (311, .aload_n 3, 1), (312, .invokestatic 157, 3), (315, .istore 6, 2), (317, .aload_n 2, 1), (318, .aload_n 0, 1), (319, .iload 5, 2), (321, .iconst 1, 1), (322, .iadd, 1), (323, .iaload, 1), (324, .aload_n 0, 1), (325, .iload 5, 2), (327, .iconst 2, 1), (328, .iadd, 1), (329, .iaload, 1), (330, .invokevirtual 160, 3), (333, .istore 7, 2), (335, .aload_n 2, 1), (336, .invokevirtual 154, 3), (339, .iload 6, 2), (341, .if_icmp .eq 5, 3), (344, .iconst 0, 1), (345, .ireturn, 1), (346, .iload 6, 2), (348, .ifCond .ne 15, 3), (351, .aload_n 3, 1), (352, .iconst 0, 1), (353, .laload, 1), (354, .iload 7, 2), (356, .i2l, 1), (357, .lcmp, 1), (358, .ifCond .eq 5, 3), (361, .iconst 0, 1), (362, .ireturn, 1), (363, .goto 2320, 3), (366, .aload_n 1, 1), (367, .aload_n 0, 1), (368, .iload 5, 2), (370, .iconst 1, 1), (371, .iadd, 1), (372, .iaload, 1), (373, .aload_n 3, 1), (374, .invokestatic 161, 3)] := by decide +kernel
theorem dL_law_280 : decode cL_law 280 = .ok (.ifCond .ne 15, 3) := fo_dd DL_law_1 0 rfl
theorem dL_law_283 : decode cL_law 283 = .ok (.aload_n 3, 1) := fo_dd DL_law_1 1 rfl
theorem dL_law_284 : decode cL_law 284 = .ok (.iconst 0, 1) := fo_dd DL_law_1 2 rfl
theorem dL_law_285 : decode cL_law 285 = .ok (.laload, 1) := fo_dd DL_law_1 3 rfl
theorem dL_law_286 : decode cL_law 286 = .ok (.iload 7, 2) := fo_dd DL_law_1 4 rfl
theorem dL_law_288 : decode cL_law 288 = .ok (.i2l, 1) := fo_dd DL_law_1 5 rfl
theorem dL_law_289 : decode cL_law 289 = .ok (.lcmp, 1) := fo_dd DL_law_1 6 rfl
theorem dL_law_290 : decode cL_law 290 = .ok (.ifCond .eq 5, 3) := fo_dd DL_law_1 7 rfl
theorem dL_law_293 : decode cL_law 293 = .ok (.iconst 0, 1) := fo_dd DL_law_1 8 rfl
theorem dL_law_294 : decode cL_law 294 = .ok (.ireturn, 1) := fo_dd DL_law_1 9 rfl
theorem dL_law_295 : decode cL_law 295 = .ok (.goto 2388, 3) := fo_dd DL_law_1 10 rfl
theorem dL_law_298 : decode cL_law 298 = .ok (.aload_n 1, 1) := fo_dd DL_law_1 11 rfl
theorem dL_law_299 : decode cL_law 299 = .ok (.aload_n 0, 1) := fo_dd DL_law_1 12 rfl
theorem dL_law_300 : decode cL_law 300 = .ok (.iload 5, 2) := fo_dd DL_law_1 13 rfl
theorem dL_law_302 : decode cL_law 302 = .ok (.iconst 1, 1) := fo_dd DL_law_1 14 rfl
theorem dL_law_303 : decode cL_law 303 = .ok (.iadd, 1) := fo_dd DL_law_1 15 rfl
theorem dL_law_304 : decode cL_law 304 = .ok (.iaload, 1) := fo_dd DL_law_1 16 rfl
theorem dL_law_305 : decode cL_law 305 = .ok (.aload_n 0, 1) := fo_dd DL_law_1 17 rfl
theorem dL_law_306 : decode cL_law 306 = .ok (.iload 5, 2) := fo_dd DL_law_1 18 rfl
theorem dL_law_308 : decode cL_law 308 = .ok (.iconst 2, 1) := fo_dd DL_law_1 19 rfl
theorem dL_law_309 : decode cL_law 309 = .ok (.iadd, 1) := fo_dd DL_law_1 20 rfl
theorem dL_law_310 : decode cL_law 310 = .ok (.iaload, 1) := fo_dd DL_law_1 21 rfl
theorem dL_law_311 : decode cL_law 311 = .ok (.aload_n 3, 1) := fo_dd DL_law_1 22 rfl
theorem dL_law_312 : decode cL_law 312 = .ok (.invokestatic 157, 3) := fo_dd DL_law_1 23 rfl
theorem dL_law_315 : decode cL_law 315 = .ok (.istore 6, 2) := fo_dd DL_law_1 24 rfl
theorem dL_law_317 : decode cL_law 317 = .ok (.aload_n 2, 1) := fo_dd DL_law_1 25 rfl
theorem dL_law_318 : decode cL_law 318 = .ok (.aload_n 0, 1) := fo_dd DL_law_1 26 rfl
theorem dL_law_319 : decode cL_law 319 = .ok (.iload 5, 2) := fo_dd DL_law_1 27 rfl
theorem dL_law_321 : decode cL_law 321 = .ok (.iconst 1, 1) := fo_dd DL_law_1 28 rfl
theorem dL_law_322 : decode cL_law 322 = .ok (.iadd, 1) := fo_dd DL_law_1 29 rfl
theorem dL_law_323 : decode cL_law 323 = .ok (.iaload, 1) := fo_dd DL_law_1 30 rfl
theorem dL_law_324 : decode cL_law 324 = .ok (.aload_n 0, 1) := fo_dd DL_law_1 31 rfl
theorem dL_law_325 : decode cL_law 325 = .ok (.iload 5, 2) := fo_dd DL_law_1 32 rfl
theorem dL_law_327 : decode cL_law 327 = .ok (.iconst 2, 1) := fo_dd DL_law_1 33 rfl
theorem dL_law_328 : decode cL_law 328 = .ok (.iadd, 1) := fo_dd DL_law_1 34 rfl
theorem dL_law_329 : decode cL_law 329 = .ok (.iaload, 1) := fo_dd DL_law_1 35 rfl
theorem dL_law_330 : decode cL_law 330 = .ok (.invokevirtual 160, 3) := fo_dd DL_law_1 36 rfl
theorem dL_law_333 : decode cL_law 333 = .ok (.istore 7, 2) := fo_dd DL_law_1 37 rfl
theorem dL_law_335 : decode cL_law 335 = .ok (.aload_n 2, 1) := fo_dd DL_law_1 38 rfl
theorem dL_law_336 : decode cL_law 336 = .ok (.invokevirtual 154, 3) := fo_dd DL_law_1 39 rfl
theorem dL_law_339 : decode cL_law 339 = .ok (.iload 6, 2) := fo_dd DL_law_1 40 rfl
theorem dL_law_341 : decode cL_law 341 = .ok (.if_icmp .eq 5, 3) := fo_dd DL_law_1 41 rfl
theorem dL_law_344 : decode cL_law 344 = .ok (.iconst 0, 1) := fo_dd DL_law_1 42 rfl
theorem dL_law_345 : decode cL_law 345 = .ok (.ireturn, 1) := fo_dd DL_law_1 43 rfl
theorem dL_law_346 : decode cL_law 346 = .ok (.iload 6, 2) := fo_dd DL_law_1 44 rfl
theorem dL_law_348 : decode cL_law 348 = .ok (.ifCond .ne 15, 3) := fo_dd DL_law_1 45 rfl
theorem dL_law_351 : decode cL_law 351 = .ok (.aload_n 3, 1) := fo_dd DL_law_1 46 rfl
theorem dL_law_352 : decode cL_law 352 = .ok (.iconst 0, 1) := fo_dd DL_law_1 47 rfl
theorem dL_law_353 : decode cL_law 353 = .ok (.laload, 1) := fo_dd DL_law_1 48 rfl
theorem dL_law_354 : decode cL_law 354 = .ok (.iload 7, 2) := fo_dd DL_law_1 49 rfl
theorem dL_law_356 : decode cL_law 356 = .ok (.i2l, 1) := fo_dd DL_law_1 50 rfl
theorem dL_law_357 : decode cL_law 357 = .ok (.lcmp, 1) := fo_dd DL_law_1 51 rfl
theorem dL_law_358 : decode cL_law 358 = .ok (.ifCond .eq 5, 3) := fo_dd DL_law_1 52 rfl
theorem dL_law_361 : decode cL_law 361 = .ok (.iconst 0, 1) := fo_dd DL_law_1 53 rfl
theorem dL_law_362 : decode cL_law 362 = .ok (.ireturn, 1) := fo_dd DL_law_1 54 rfl
theorem dL_law_363 : decode cL_law 363 = .ok (.goto 2320, 3) := fo_dd DL_law_1 55 rfl
theorem dL_law_366 : decode cL_law 366 = .ok (.aload_n 1, 1) := fo_dd DL_law_1 56 rfl
theorem dL_law_367 : decode cL_law 367 = .ok (.aload_n 0, 1) := fo_dd DL_law_1 57 rfl
theorem dL_law_368 : decode cL_law 368 = .ok (.iload 5, 2) := fo_dd DL_law_1 58 rfl
theorem dL_law_370 : decode cL_law 370 = .ok (.iconst 1, 1) := fo_dd DL_law_1 59 rfl
theorem dL_law_371 : decode cL_law 371 = .ok (.iadd, 1) := fo_dd DL_law_1 60 rfl
theorem dL_law_372 : decode cL_law 372 = .ok (.iaload, 1) := fo_dd DL_law_1 61 rfl
theorem dL_law_373 : decode cL_law 373 = .ok (.aload_n 3, 1) := fo_dd DL_law_1 62 rfl
theorem dL_law_374 : decode cL_law 374 = .ok (.invokestatic 161, 3) := fo_dd DL_law_1 63 rfl
theorem DL_law_2 : fo_dl cL_law [(377, .istore 6, 2), (379, .aload_n 2, 1), (380, .aload_n 0, 1), (381, .iload 5, 2), (383, .iconst 1, 1), (384, .iadd, 1), (385, .iaload, 1), (386, .invokevirtual 164, 3), (389, .istore 7, 2), (391, .aload_n 2, 1), (392, .invokevirtual 154, 3), (395, .iload 6, 2), (397, .if_icmp .eq 5, 3), (400, .iconst 0, 1), (401, .ireturn, 1), (402, .iload 6, 2), (404, .ifCond .ne 15, 3), (407, .aload_n 3, 1), (408, .iconst 0, 1), (409, .laload, 1), (410, .iload 7, 2), (412, .i2l, 1), (413, .lcmp, 1), (414, .ifCond .eq 5, 3), (417, .iconst 0, 1), (418, .ireturn, 1), (419, .goto 2264, 3), (422, .aload_n 1, 1), (423, .aload_n 0, 1), (424, .iload 5, 2), (426, .iconst 1, 1), (427, .iadd, 1), (428, .iaload, 1), (429, .aload_n 3, 1), (430, .invokestatic 165, 3), (433, .istore 6, 2), (435, .aload_n 2, 1), (436, .aload_n 0, 1), (437, .iload 5, 2), (439, .iconst 1, 1), (440, .iadd, 1), (441, .iaload, 1), (442, .invokevirtual 167, 3), (445, .istore 7, 2), (447, .aload_n 2, 1), (448, .invokevirtual 154, 3), (451, .iload 6, 2), (453, .if_icmp .eq 5, 3), (456, .iconst 0, 1), (457, .ireturn, 1), (458, .iload 6, 2), (460, .ifCond .ne 15, 3), (463, .aload_n 3, 1), (464, .iconst 0, 1), (465, .laload, 1), (466, .iload 7, 2), (468, .i2l, 1), (469, .lcmp, 1), (470, .ifCond .eq 5, 3), (473, .iconst 0, 1), (474, .ireturn, 1), (475, .goto 2208, 3), (478, .aload_n 1, 1), (479, .aload_n 0, 1)] := by decide +kernel
theorem dL_law_377 : decode cL_law 377 = .ok (.istore 6, 2) := fo_dd DL_law_2 0 rfl
theorem dL_law_379 : decode cL_law 379 = .ok (.aload_n 2, 1) := fo_dd DL_law_2 1 rfl
theorem dL_law_380 : decode cL_law 380 = .ok (.aload_n 0, 1) := fo_dd DL_law_2 2 rfl
theorem dL_law_381 : decode cL_law 381 = .ok (.iload 5, 2) := fo_dd DL_law_2 3 rfl
theorem dL_law_383 : decode cL_law 383 = .ok (.iconst 1, 1) := fo_dd DL_law_2 4 rfl
theorem dL_law_384 : decode cL_law 384 = .ok (.iadd, 1) := fo_dd DL_law_2 5 rfl
theorem dL_law_385 : decode cL_law 385 = .ok (.iaload, 1) := fo_dd DL_law_2 6 rfl
theorem dL_law_386 : decode cL_law 386 = .ok (.invokevirtual 164, 3) := fo_dd DL_law_2 7 rfl
theorem dL_law_389 : decode cL_law 389 = .ok (.istore 7, 2) := fo_dd DL_law_2 8 rfl
theorem dL_law_391 : decode cL_law 391 = .ok (.aload_n 2, 1) := fo_dd DL_law_2 9 rfl
theorem dL_law_392 : decode cL_law 392 = .ok (.invokevirtual 154, 3) := fo_dd DL_law_2 10 rfl
theorem dL_law_395 : decode cL_law 395 = .ok (.iload 6, 2) := fo_dd DL_law_2 11 rfl
theorem dL_law_397 : decode cL_law 397 = .ok (.if_icmp .eq 5, 3) := fo_dd DL_law_2 12 rfl
theorem dL_law_400 : decode cL_law 400 = .ok (.iconst 0, 1) := fo_dd DL_law_2 13 rfl
theorem dL_law_401 : decode cL_law 401 = .ok (.ireturn, 1) := fo_dd DL_law_2 14 rfl
theorem dL_law_402 : decode cL_law 402 = .ok (.iload 6, 2) := fo_dd DL_law_2 15 rfl
theorem dL_law_404 : decode cL_law 404 = .ok (.ifCond .ne 15, 3) := fo_dd DL_law_2 16 rfl
theorem dL_law_407 : decode cL_law 407 = .ok (.aload_n 3, 1) := fo_dd DL_law_2 17 rfl
theorem dL_law_408 : decode cL_law 408 = .ok (.iconst 0, 1) := fo_dd DL_law_2 18 rfl
theorem dL_law_409 : decode cL_law 409 = .ok (.laload, 1) := fo_dd DL_law_2 19 rfl
theorem dL_law_410 : decode cL_law 410 = .ok (.iload 7, 2) := fo_dd DL_law_2 20 rfl
theorem dL_law_412 : decode cL_law 412 = .ok (.i2l, 1) := fo_dd DL_law_2 21 rfl
theorem dL_law_413 : decode cL_law 413 = .ok (.lcmp, 1) := fo_dd DL_law_2 22 rfl
theorem dL_law_414 : decode cL_law 414 = .ok (.ifCond .eq 5, 3) := fo_dd DL_law_2 23 rfl
theorem dL_law_417 : decode cL_law 417 = .ok (.iconst 0, 1) := fo_dd DL_law_2 24 rfl
theorem dL_law_418 : decode cL_law 418 = .ok (.ireturn, 1) := fo_dd DL_law_2 25 rfl
theorem dL_law_419 : decode cL_law 419 = .ok (.goto 2264, 3) := fo_dd DL_law_2 26 rfl
theorem dL_law_422 : decode cL_law 422 = .ok (.aload_n 1, 1) := fo_dd DL_law_2 27 rfl
theorem dL_law_423 : decode cL_law 423 = .ok (.aload_n 0, 1) := fo_dd DL_law_2 28 rfl
theorem dL_law_424 : decode cL_law 424 = .ok (.iload 5, 2) := fo_dd DL_law_2 29 rfl
theorem dL_law_426 : decode cL_law 426 = .ok (.iconst 1, 1) := fo_dd DL_law_2 30 rfl
theorem dL_law_427 : decode cL_law 427 = .ok (.iadd, 1) := fo_dd DL_law_2 31 rfl
theorem dL_law_428 : decode cL_law 428 = .ok (.iaload, 1) := fo_dd DL_law_2 32 rfl
theorem dL_law_429 : decode cL_law 429 = .ok (.aload_n 3, 1) := fo_dd DL_law_2 33 rfl
theorem dL_law_430 : decode cL_law 430 = .ok (.invokestatic 165, 3) := fo_dd DL_law_2 34 rfl
theorem dL_law_433 : decode cL_law 433 = .ok (.istore 6, 2) := fo_dd DL_law_2 35 rfl
theorem dL_law_435 : decode cL_law 435 = .ok (.aload_n 2, 1) := fo_dd DL_law_2 36 rfl
theorem dL_law_436 : decode cL_law 436 = .ok (.aload_n 0, 1) := fo_dd DL_law_2 37 rfl
theorem dL_law_437 : decode cL_law 437 = .ok (.iload 5, 2) := fo_dd DL_law_2 38 rfl
theorem dL_law_439 : decode cL_law 439 = .ok (.iconst 1, 1) := fo_dd DL_law_2 39 rfl
theorem dL_law_440 : decode cL_law 440 = .ok (.iadd, 1) := fo_dd DL_law_2 40 rfl
theorem dL_law_441 : decode cL_law 441 = .ok (.iaload, 1) := fo_dd DL_law_2 41 rfl
theorem dL_law_442 : decode cL_law 442 = .ok (.invokevirtual 167, 3) := fo_dd DL_law_2 42 rfl
theorem dL_law_445 : decode cL_law 445 = .ok (.istore 7, 2) := fo_dd DL_law_2 43 rfl
theorem dL_law_447 : decode cL_law 447 = .ok (.aload_n 2, 1) := fo_dd DL_law_2 44 rfl
theorem dL_law_448 : decode cL_law 448 = .ok (.invokevirtual 154, 3) := fo_dd DL_law_2 45 rfl
theorem dL_law_451 : decode cL_law 451 = .ok (.iload 6, 2) := fo_dd DL_law_2 46 rfl
theorem dL_law_453 : decode cL_law 453 = .ok (.if_icmp .eq 5, 3) := fo_dd DL_law_2 47 rfl
theorem dL_law_456 : decode cL_law 456 = .ok (.iconst 0, 1) := fo_dd DL_law_2 48 rfl
theorem dL_law_457 : decode cL_law 457 = .ok (.ireturn, 1) := fo_dd DL_law_2 49 rfl
theorem dL_law_458 : decode cL_law 458 = .ok (.iload 6, 2) := fo_dd DL_law_2 50 rfl
theorem dL_law_460 : decode cL_law 460 = .ok (.ifCond .ne 15, 3) := fo_dd DL_law_2 51 rfl
theorem dL_law_463 : decode cL_law 463 = .ok (.aload_n 3, 1) := fo_dd DL_law_2 52 rfl
theorem dL_law_464 : decode cL_law 464 = .ok (.iconst 0, 1) := fo_dd DL_law_2 53 rfl
theorem dL_law_465 : decode cL_law 465 = .ok (.laload, 1) := fo_dd DL_law_2 54 rfl
theorem dL_law_466 : decode cL_law 466 = .ok (.iload 7, 2) := fo_dd DL_law_2 55 rfl
theorem dL_law_468 : decode cL_law 468 = .ok (.i2l, 1) := fo_dd DL_law_2 56 rfl
theorem dL_law_469 : decode cL_law 469 = .ok (.lcmp, 1) := fo_dd DL_law_2 57 rfl
theorem dL_law_470 : decode cL_law 470 = .ok (.ifCond .eq 5, 3) := fo_dd DL_law_2 58 rfl
theorem dL_law_473 : decode cL_law 473 = .ok (.iconst 0, 1) := fo_dd DL_law_2 59 rfl
theorem dL_law_474 : decode cL_law 474 = .ok (.ireturn, 1) := fo_dd DL_law_2 60 rfl
theorem dL_law_475 : decode cL_law 475 = .ok (.goto 2208, 3) := fo_dd DL_law_2 61 rfl
theorem dL_law_478 : decode cL_law 478 = .ok (.aload_n 1, 1) := fo_dd DL_law_2 62 rfl
theorem dL_law_479 : decode cL_law 479 = .ok (.aload_n 0, 1) := fo_dd DL_law_2 63 rfl
theorem DL_law_3 : fo_dl cL_law [(480, .iload 5, 2), (482, .iconst 1, 1), (483, .iadd, 1), (484, .iaload, 1), (485, .aload_n 3, 1), (486, .invokestatic 168, 3), (489, .istore 6, 2), (491, .aload_n 2, 1), (492, .aload_n 0, 1), (493, .iload 5, 2), (495, .iconst 1, 1), (496, .iadd, 1), (497, .iaload, 1), (498, .invokevirtual 170, 3), (501, .istore 7, 2), (503, .aload_n 2, 1), (504, .invokevirtual 154, 3), (507, .iload 6, 2), (509, .if_icmp .eq 5, 3), (512, .iconst 0, 1), (513, .ireturn, 1), (514, .iload 6, 2), (516, .ifCond .ne 15, 3), (519, .aload_n 3, 1), (520, .iconst 0, 1), (521, .laload, 1), (522, .iload 7, 2), (524, .i2l, 1), (525, .lcmp, 1), (526, .ifCond .eq 5, 3), (529, .iconst 0, 1), (530, .ireturn, 1), (531, .goto 2152, 3), (534, .aload_n 1, 1), (535, .aload_n 0, 1), (536, .iload 5, 2), (538, .iconst 1, 1), (539, .iadd, 1), (540, .iaload, 1), (541, .aload_n 0, 1), (542, .iload 5, 2), (544, .iconst 2, 1), (545, .iadd, 1), (546, .iaload, 1), (547, .aload_n 3, 1), (548, .invokestatic 171, 3), (551, .istore 6, 2), (553, .aload_n 2, 1), (554, .aload_n 0, 1), (555, .iload 5, 2), (557, .iconst 1, 1), (558, .iadd, 1), (559, .iaload, 1), (560, .aload_n 0, 1), (561, .iload 5, 2), (563, .iconst 2, 1), (564, .iadd, 1), (565, .iaload, 1), (566, .invokevirtual 173, 3), (569, .istore 7, 2), (571, .aload_n 2, 1), (572, .invokevirtual 154, 3), (575, .iload 6, 2), (577, .if_icmp .eq 5, 3)] := by decide +kernel
theorem dL_law_480 : decode cL_law 480 = .ok (.iload 5, 2) := fo_dd DL_law_3 0 rfl
theorem dL_law_482 : decode cL_law 482 = .ok (.iconst 1, 1) := fo_dd DL_law_3 1 rfl
theorem dL_law_483 : decode cL_law 483 = .ok (.iadd, 1) := fo_dd DL_law_3 2 rfl
theorem dL_law_484 : decode cL_law 484 = .ok (.iaload, 1) := fo_dd DL_law_3 3 rfl
theorem dL_law_485 : decode cL_law 485 = .ok (.aload_n 3, 1) := fo_dd DL_law_3 4 rfl
theorem dL_law_486 : decode cL_law 486 = .ok (.invokestatic 168, 3) := fo_dd DL_law_3 5 rfl
theorem dL_law_489 : decode cL_law 489 = .ok (.istore 6, 2) := fo_dd DL_law_3 6 rfl
theorem dL_law_491 : decode cL_law 491 = .ok (.aload_n 2, 1) := fo_dd DL_law_3 7 rfl
theorem dL_law_492 : decode cL_law 492 = .ok (.aload_n 0, 1) := fo_dd DL_law_3 8 rfl
theorem dL_law_493 : decode cL_law 493 = .ok (.iload 5, 2) := fo_dd DL_law_3 9 rfl
theorem dL_law_495 : decode cL_law 495 = .ok (.iconst 1, 1) := fo_dd DL_law_3 10 rfl
theorem dL_law_496 : decode cL_law 496 = .ok (.iadd, 1) := fo_dd DL_law_3 11 rfl
theorem dL_law_497 : decode cL_law 497 = .ok (.iaload, 1) := fo_dd DL_law_3 12 rfl
theorem dL_law_498 : decode cL_law 498 = .ok (.invokevirtual 170, 3) := fo_dd DL_law_3 13 rfl
theorem dL_law_501 : decode cL_law 501 = .ok (.istore 7, 2) := fo_dd DL_law_3 14 rfl
theorem dL_law_503 : decode cL_law 503 = .ok (.aload_n 2, 1) := fo_dd DL_law_3 15 rfl
theorem dL_law_504 : decode cL_law 504 = .ok (.invokevirtual 154, 3) := fo_dd DL_law_3 16 rfl
theorem dL_law_507 : decode cL_law 507 = .ok (.iload 6, 2) := fo_dd DL_law_3 17 rfl
theorem dL_law_509 : decode cL_law 509 = .ok (.if_icmp .eq 5, 3) := fo_dd DL_law_3 18 rfl
theorem dL_law_512 : decode cL_law 512 = .ok (.iconst 0, 1) := fo_dd DL_law_3 19 rfl
theorem dL_law_513 : decode cL_law 513 = .ok (.ireturn, 1) := fo_dd DL_law_3 20 rfl
theorem dL_law_514 : decode cL_law 514 = .ok (.iload 6, 2) := fo_dd DL_law_3 21 rfl
theorem dL_law_516 : decode cL_law 516 = .ok (.ifCond .ne 15, 3) := fo_dd DL_law_3 22 rfl
theorem dL_law_519 : decode cL_law 519 = .ok (.aload_n 3, 1) := fo_dd DL_law_3 23 rfl
theorem dL_law_520 : decode cL_law 520 = .ok (.iconst 0, 1) := fo_dd DL_law_3 24 rfl
theorem dL_law_521 : decode cL_law 521 = .ok (.laload, 1) := fo_dd DL_law_3 25 rfl
theorem dL_law_522 : decode cL_law 522 = .ok (.iload 7, 2) := fo_dd DL_law_3 26 rfl
theorem dL_law_524 : decode cL_law 524 = .ok (.i2l, 1) := fo_dd DL_law_3 27 rfl
theorem dL_law_525 : decode cL_law 525 = .ok (.lcmp, 1) := fo_dd DL_law_3 28 rfl
theorem dL_law_526 : decode cL_law 526 = .ok (.ifCond .eq 5, 3) := fo_dd DL_law_3 29 rfl
theorem dL_law_529 : decode cL_law 529 = .ok (.iconst 0, 1) := fo_dd DL_law_3 30 rfl
theorem dL_law_530 : decode cL_law 530 = .ok (.ireturn, 1) := fo_dd DL_law_3 31 rfl
theorem dL_law_531 : decode cL_law 531 = .ok (.goto 2152, 3) := fo_dd DL_law_3 32 rfl
theorem dL_law_534 : decode cL_law 534 = .ok (.aload_n 1, 1) := fo_dd DL_law_3 33 rfl
theorem dL_law_535 : decode cL_law 535 = .ok (.aload_n 0, 1) := fo_dd DL_law_3 34 rfl
theorem dL_law_536 : decode cL_law 536 = .ok (.iload 5, 2) := fo_dd DL_law_3 35 rfl
theorem dL_law_538 : decode cL_law 538 = .ok (.iconst 1, 1) := fo_dd DL_law_3 36 rfl
theorem dL_law_539 : decode cL_law 539 = .ok (.iadd, 1) := fo_dd DL_law_3 37 rfl
theorem dL_law_540 : decode cL_law 540 = .ok (.iaload, 1) := fo_dd DL_law_3 38 rfl
theorem dL_law_541 : decode cL_law 541 = .ok (.aload_n 0, 1) := fo_dd DL_law_3 39 rfl
theorem dL_law_542 : decode cL_law 542 = .ok (.iload 5, 2) := fo_dd DL_law_3 40 rfl
theorem dL_law_544 : decode cL_law 544 = .ok (.iconst 2, 1) := fo_dd DL_law_3 41 rfl
theorem dL_law_545 : decode cL_law 545 = .ok (.iadd, 1) := fo_dd DL_law_3 42 rfl
theorem dL_law_546 : decode cL_law 546 = .ok (.iaload, 1) := fo_dd DL_law_3 43 rfl
theorem dL_law_547 : decode cL_law 547 = .ok (.aload_n 3, 1) := fo_dd DL_law_3 44 rfl
theorem dL_law_548 : decode cL_law 548 = .ok (.invokestatic 171, 3) := fo_dd DL_law_3 45 rfl
theorem dL_law_551 : decode cL_law 551 = .ok (.istore 6, 2) := fo_dd DL_law_3 46 rfl
theorem dL_law_553 : decode cL_law 553 = .ok (.aload_n 2, 1) := fo_dd DL_law_3 47 rfl
theorem dL_law_554 : decode cL_law 554 = .ok (.aload_n 0, 1) := fo_dd DL_law_3 48 rfl
theorem dL_law_555 : decode cL_law 555 = .ok (.iload 5, 2) := fo_dd DL_law_3 49 rfl
theorem dL_law_557 : decode cL_law 557 = .ok (.iconst 1, 1) := fo_dd DL_law_3 50 rfl
theorem dL_law_558 : decode cL_law 558 = .ok (.iadd, 1) := fo_dd DL_law_3 51 rfl
theorem dL_law_559 : decode cL_law 559 = .ok (.iaload, 1) := fo_dd DL_law_3 52 rfl
theorem dL_law_560 : decode cL_law 560 = .ok (.aload_n 0, 1) := fo_dd DL_law_3 53 rfl
theorem dL_law_561 : decode cL_law 561 = .ok (.iload 5, 2) := fo_dd DL_law_3 54 rfl
theorem dL_law_563 : decode cL_law 563 = .ok (.iconst 2, 1) := fo_dd DL_law_3 55 rfl
theorem dL_law_564 : decode cL_law 564 = .ok (.iadd, 1) := fo_dd DL_law_3 56 rfl
theorem dL_law_565 : decode cL_law 565 = .ok (.iaload, 1) := fo_dd DL_law_3 57 rfl
theorem dL_law_566 : decode cL_law 566 = .ok (.invokevirtual 173, 3) := fo_dd DL_law_3 58 rfl
theorem dL_law_569 : decode cL_law 569 = .ok (.istore 7, 2) := fo_dd DL_law_3 59 rfl
theorem dL_law_571 : decode cL_law 571 = .ok (.aload_n 2, 1) := fo_dd DL_law_3 60 rfl
theorem dL_law_572 : decode cL_law 572 = .ok (.invokevirtual 154, 3) := fo_dd DL_law_3 61 rfl
theorem dL_law_575 : decode cL_law 575 = .ok (.iload 6, 2) := fo_dd DL_law_3 62 rfl
theorem dL_law_577 : decode cL_law 577 = .ok (.if_icmp .eq 5, 3) := fo_dd DL_law_3 63 rfl
theorem DL_law_4 : fo_dl cL_law [(580, .iconst 0, 1), (581, .ireturn, 1), (582, .iload 6, 2), (584, .ifCond .ne 15, 3), (587, .aload_n 3, 1), (588, .iconst 0, 1), (589, .laload, 1), (590, .iload 7, 2), (592, .i2l, 1), (593, .lcmp, 1), (594, .ifCond .eq 5, 3), (597, .iconst 0, 1), (598, .ireturn, 1), (599, .goto 2084, 3), (602, .aload_n 1, 1), (603, .aload_n 0, 1), (604, .iload 5, 2), (606, .iconst 1, 1), (607, .iadd, 1), (608, .iaload, 1), (609, .aload_n 3, 1), (610, .invokestatic 174, 3), (613, .istore 6, 2), (615, .aload_n 2, 1), (616, .aload_n 0, 1), (617, .iload 5, 2), (619, .iconst 1, 1), (620, .iadd, 1), (621, .iaload, 1), (622, .invokevirtual 176, 3), (625, .istore 7, 2), (627, .aload_n 2, 1), (628, .invokevirtual 154, 3), (631, .iload 6, 2), (633, .if_icmp .eq 5, 3), (636, .iconst 0, 1), (637, .ireturn, 1), (638, .iload 6, 2), (640, .ifCond .ne 15, 3), (643, .aload_n 3, 1), (644, .iconst 0, 1), (645, .laload, 1), (646, .iload 7, 2), (648, .i2l, 1), (649, .lcmp, 1), (650, .ifCond .eq 5, 3), (653, .iconst 0, 1), (654, .ireturn, 1), (655, .goto 2028, 3), (658, .aload_n 1, 1), (659, .aload_n 0, 1), (660, .iload 5, 2), (662, .iconst 1, 1), (663, .iadd, 1), (664, .iaload, 1), (665, .aload_n 0, 1), (666, .iload 5, 2), (668, .iconst 2, 1), (669, .iadd, 1), (670, .iaload, 1), (671, .aload 4, 2), (673, .invokestatic 177, 3), (676, .istore 6, 2), (678, .aload_n 2, 1)] := by decide +kernel
theorem dL_law_580 : decode cL_law 580 = .ok (.iconst 0, 1) := fo_dd DL_law_4 0 rfl
theorem dL_law_581 : decode cL_law 581 = .ok (.ireturn, 1) := fo_dd DL_law_4 1 rfl
theorem dL_law_582 : decode cL_law 582 = .ok (.iload 6, 2) := fo_dd DL_law_4 2 rfl
theorem dL_law_584 : decode cL_law 584 = .ok (.ifCond .ne 15, 3) := fo_dd DL_law_4 3 rfl
theorem dL_law_587 : decode cL_law 587 = .ok (.aload_n 3, 1) := fo_dd DL_law_4 4 rfl
theorem dL_law_588 : decode cL_law 588 = .ok (.iconst 0, 1) := fo_dd DL_law_4 5 rfl
theorem dL_law_589 : decode cL_law 589 = .ok (.laload, 1) := fo_dd DL_law_4 6 rfl
theorem dL_law_590 : decode cL_law 590 = .ok (.iload 7, 2) := fo_dd DL_law_4 7 rfl
theorem dL_law_592 : decode cL_law 592 = .ok (.i2l, 1) := fo_dd DL_law_4 8 rfl
theorem dL_law_593 : decode cL_law 593 = .ok (.lcmp, 1) := fo_dd DL_law_4 9 rfl
theorem dL_law_594 : decode cL_law 594 = .ok (.ifCond .eq 5, 3) := fo_dd DL_law_4 10 rfl
theorem dL_law_597 : decode cL_law 597 = .ok (.iconst 0, 1) := fo_dd DL_law_4 11 rfl
theorem dL_law_598 : decode cL_law 598 = .ok (.ireturn, 1) := fo_dd DL_law_4 12 rfl
theorem dL_law_599 : decode cL_law 599 = .ok (.goto 2084, 3) := fo_dd DL_law_4 13 rfl
theorem dL_law_602 : decode cL_law 602 = .ok (.aload_n 1, 1) := fo_dd DL_law_4 14 rfl
theorem dL_law_603 : decode cL_law 603 = .ok (.aload_n 0, 1) := fo_dd DL_law_4 15 rfl
theorem dL_law_604 : decode cL_law 604 = .ok (.iload 5, 2) := fo_dd DL_law_4 16 rfl
theorem dL_law_606 : decode cL_law 606 = .ok (.iconst 1, 1) := fo_dd DL_law_4 17 rfl
theorem dL_law_607 : decode cL_law 607 = .ok (.iadd, 1) := fo_dd DL_law_4 18 rfl
theorem dL_law_608 : decode cL_law 608 = .ok (.iaload, 1) := fo_dd DL_law_4 19 rfl
theorem dL_law_609 : decode cL_law 609 = .ok (.aload_n 3, 1) := fo_dd DL_law_4 20 rfl
theorem dL_law_610 : decode cL_law 610 = .ok (.invokestatic 174, 3) := fo_dd DL_law_4 21 rfl
theorem dL_law_613 : decode cL_law 613 = .ok (.istore 6, 2) := fo_dd DL_law_4 22 rfl
theorem dL_law_615 : decode cL_law 615 = .ok (.aload_n 2, 1) := fo_dd DL_law_4 23 rfl
theorem dL_law_616 : decode cL_law 616 = .ok (.aload_n 0, 1) := fo_dd DL_law_4 24 rfl
theorem dL_law_617 : decode cL_law 617 = .ok (.iload 5, 2) := fo_dd DL_law_4 25 rfl
theorem dL_law_619 : decode cL_law 619 = .ok (.iconst 1, 1) := fo_dd DL_law_4 26 rfl
theorem dL_law_620 : decode cL_law 620 = .ok (.iadd, 1) := fo_dd DL_law_4 27 rfl
theorem dL_law_621 : decode cL_law 621 = .ok (.iaload, 1) := fo_dd DL_law_4 28 rfl
theorem dL_law_622 : decode cL_law 622 = .ok (.invokevirtual 176, 3) := fo_dd DL_law_4 29 rfl
theorem dL_law_625 : decode cL_law 625 = .ok (.istore 7, 2) := fo_dd DL_law_4 30 rfl
theorem dL_law_627 : decode cL_law 627 = .ok (.aload_n 2, 1) := fo_dd DL_law_4 31 rfl
theorem dL_law_628 : decode cL_law 628 = .ok (.invokevirtual 154, 3) := fo_dd DL_law_4 32 rfl
theorem dL_law_631 : decode cL_law 631 = .ok (.iload 6, 2) := fo_dd DL_law_4 33 rfl
theorem dL_law_633 : decode cL_law 633 = .ok (.if_icmp .eq 5, 3) := fo_dd DL_law_4 34 rfl
theorem dL_law_636 : decode cL_law 636 = .ok (.iconst 0, 1) := fo_dd DL_law_4 35 rfl
theorem dL_law_637 : decode cL_law 637 = .ok (.ireturn, 1) := fo_dd DL_law_4 36 rfl
theorem dL_law_638 : decode cL_law 638 = .ok (.iload 6, 2) := fo_dd DL_law_4 37 rfl
theorem dL_law_640 : decode cL_law 640 = .ok (.ifCond .ne 15, 3) := fo_dd DL_law_4 38 rfl
theorem dL_law_643 : decode cL_law 643 = .ok (.aload_n 3, 1) := fo_dd DL_law_4 39 rfl
theorem dL_law_644 : decode cL_law 644 = .ok (.iconst 0, 1) := fo_dd DL_law_4 40 rfl
theorem dL_law_645 : decode cL_law 645 = .ok (.laload, 1) := fo_dd DL_law_4 41 rfl
theorem dL_law_646 : decode cL_law 646 = .ok (.iload 7, 2) := fo_dd DL_law_4 42 rfl
theorem dL_law_648 : decode cL_law 648 = .ok (.i2l, 1) := fo_dd DL_law_4 43 rfl
theorem dL_law_649 : decode cL_law 649 = .ok (.lcmp, 1) := fo_dd DL_law_4 44 rfl
theorem dL_law_650 : decode cL_law 650 = .ok (.ifCond .eq 5, 3) := fo_dd DL_law_4 45 rfl
theorem dL_law_653 : decode cL_law 653 = .ok (.iconst 0, 1) := fo_dd DL_law_4 46 rfl
theorem dL_law_654 : decode cL_law 654 = .ok (.ireturn, 1) := fo_dd DL_law_4 47 rfl
theorem dL_law_655 : decode cL_law 655 = .ok (.goto 2028, 3) := fo_dd DL_law_4 48 rfl
theorem dL_law_658 : decode cL_law 658 = .ok (.aload_n 1, 1) := fo_dd DL_law_4 49 rfl
theorem dL_law_659 : decode cL_law 659 = .ok (.aload_n 0, 1) := fo_dd DL_law_4 50 rfl
theorem dL_law_660 : decode cL_law 660 = .ok (.iload 5, 2) := fo_dd DL_law_4 51 rfl
theorem dL_law_662 : decode cL_law 662 = .ok (.iconst 1, 1) := fo_dd DL_law_4 52 rfl
theorem dL_law_663 : decode cL_law 663 = .ok (.iadd, 1) := fo_dd DL_law_4 53 rfl
theorem dL_law_664 : decode cL_law 664 = .ok (.iaload, 1) := fo_dd DL_law_4 54 rfl
theorem dL_law_665 : decode cL_law 665 = .ok (.aload_n 0, 1) := fo_dd DL_law_4 55 rfl
theorem dL_law_666 : decode cL_law 666 = .ok (.iload 5, 2) := fo_dd DL_law_4 56 rfl
theorem dL_law_668 : decode cL_law 668 = .ok (.iconst 2, 1) := fo_dd DL_law_4 57 rfl
theorem dL_law_669 : decode cL_law 669 = .ok (.iadd, 1) := fo_dd DL_law_4 58 rfl
theorem dL_law_670 : decode cL_law 670 = .ok (.iaload, 1) := fo_dd DL_law_4 59 rfl
theorem dL_law_671 : decode cL_law 671 = .ok (.aload 4, 2) := fo_dd DL_law_4 60 rfl
theorem dL_law_673 : decode cL_law 673 = .ok (.invokestatic 177, 3) := fo_dd DL_law_4 61 rfl
theorem dL_law_676 : decode cL_law 676 = .ok (.istore 6, 2) := fo_dd DL_law_4 62 rfl
theorem dL_law_678 : decode cL_law 678 = .ok (.aload_n 2, 1) := fo_dd DL_law_4 63 rfl
theorem DL_law_5 : fo_dl cL_law [(679, .aload_n 0, 1), (680, .iload 5, 2), (682, .iconst 1, 1), (683, .iadd, 1), (684, .iaload, 1), (685, .aload_n 0, 1), (686, .iload 5, 2), (688, .iconst 2, 1), (689, .iadd, 1), (690, .iaload, 1), (691, .invokevirtual 180, 3), (694, .dstore 7, 2), (696, .aload_n 2, 1), (697, .invokevirtual 154, 3), (700, .iload 6, 2), (702, .if_icmp .eq 5, 3), (705, .iconst 0, 1), (706, .ireturn, 1), (707, .iload 6, 2), (709, .ifCond .ne 35, 3), (712, .aload 4, 2), (714, .iconst 0, 1), (715, .daload, 1), (716, .dload 7, 2), (718, .dcmp .l, 1), (719, .ifCond .eq 25, 3), (722, .aload 4, 2), (724, .iconst 0, 1), (725, .daload, 1), (726, .aload 4, 2), (728, .iconst 0, 1), (729, .daload, 1), (730, .dcmp .l, 1), (731, .ifCond .eq 11, 3), (734, .dload 7, 2), (736, .dload 7, 2), (738, .dcmp .l, 1), (739, .ifCond .ne 5, 3), (742, .iconst 0, 1), (743, .ireturn, 1), (744, .goto 1939, 3), (747, .aload_n 1, 1), (748, .aload_n 0, 1), (749, .iload 5, 2), (751, .iconst 1, 1), (752, .iadd, 1), (753, .iaload, 1), (754, .aload_n 0, 1), (755, .iload 5, 2), (757, .iconst 2, 1), (758, .iadd, 1), (759, .iaload, 1), (760, .aload 4, 2), (762, .invokestatic 181, 3), (765, .istore 6, 2), (767, .aload_n 2, 1), (768, .aload_n 0, 1), (769, .iload 5, 2), (771, .iconst 1, 1), (772, .iadd, 1), (773, .iaload, 1), (774, .aload_n 0, 1), (775, .iload 5, 2), (777, .iconst 2, 1)] := by decide +kernel
theorem dL_law_679 : decode cL_law 679 = .ok (.aload_n 0, 1) := fo_dd DL_law_5 0 rfl
theorem dL_law_680 : decode cL_law 680 = .ok (.iload 5, 2) := fo_dd DL_law_5 1 rfl
theorem dL_law_682 : decode cL_law 682 = .ok (.iconst 1, 1) := fo_dd DL_law_5 2 rfl
theorem dL_law_683 : decode cL_law 683 = .ok (.iadd, 1) := fo_dd DL_law_5 3 rfl
theorem dL_law_684 : decode cL_law 684 = .ok (.iaload, 1) := fo_dd DL_law_5 4 rfl
theorem dL_law_685 : decode cL_law 685 = .ok (.aload_n 0, 1) := fo_dd DL_law_5 5 rfl
theorem dL_law_686 : decode cL_law 686 = .ok (.iload 5, 2) := fo_dd DL_law_5 6 rfl
theorem dL_law_688 : decode cL_law 688 = .ok (.iconst 2, 1) := fo_dd DL_law_5 7 rfl
theorem dL_law_689 : decode cL_law 689 = .ok (.iadd, 1) := fo_dd DL_law_5 8 rfl
theorem dL_law_690 : decode cL_law 690 = .ok (.iaload, 1) := fo_dd DL_law_5 9 rfl
theorem dL_law_691 : decode cL_law 691 = .ok (.invokevirtual 180, 3) := fo_dd DL_law_5 10 rfl
theorem dL_law_694 : decode cL_law 694 = .ok (.dstore 7, 2) := fo_dd DL_law_5 11 rfl
theorem dL_law_696 : decode cL_law 696 = .ok (.aload_n 2, 1) := fo_dd DL_law_5 12 rfl
theorem dL_law_697 : decode cL_law 697 = .ok (.invokevirtual 154, 3) := fo_dd DL_law_5 13 rfl
theorem dL_law_700 : decode cL_law 700 = .ok (.iload 6, 2) := fo_dd DL_law_5 14 rfl
theorem dL_law_702 : decode cL_law 702 = .ok (.if_icmp .eq 5, 3) := fo_dd DL_law_5 15 rfl
theorem dL_law_705 : decode cL_law 705 = .ok (.iconst 0, 1) := fo_dd DL_law_5 16 rfl
theorem dL_law_706 : decode cL_law 706 = .ok (.ireturn, 1) := fo_dd DL_law_5 17 rfl
theorem dL_law_707 : decode cL_law 707 = .ok (.iload 6, 2) := fo_dd DL_law_5 18 rfl
theorem dL_law_709 : decode cL_law 709 = .ok (.ifCond .ne 35, 3) := fo_dd DL_law_5 19 rfl
theorem dL_law_712 : decode cL_law 712 = .ok (.aload 4, 2) := fo_dd DL_law_5 20 rfl
theorem dL_law_714 : decode cL_law 714 = .ok (.iconst 0, 1) := fo_dd DL_law_5 21 rfl
theorem dL_law_715 : decode cL_law 715 = .ok (.daload, 1) := fo_dd DL_law_5 22 rfl
theorem dL_law_716 : decode cL_law 716 = .ok (.dload 7, 2) := fo_dd DL_law_5 23 rfl
theorem dL_law_718 : decode cL_law 718 = .ok (.dcmp .l, 1) := fo_dd DL_law_5 24 rfl
theorem dL_law_719 : decode cL_law 719 = .ok (.ifCond .eq 25, 3) := fo_dd DL_law_5 25 rfl
theorem dL_law_722 : decode cL_law 722 = .ok (.aload 4, 2) := fo_dd DL_law_5 26 rfl
theorem dL_law_724 : decode cL_law 724 = .ok (.iconst 0, 1) := fo_dd DL_law_5 27 rfl
theorem dL_law_725 : decode cL_law 725 = .ok (.daload, 1) := fo_dd DL_law_5 28 rfl
theorem dL_law_726 : decode cL_law 726 = .ok (.aload 4, 2) := fo_dd DL_law_5 29 rfl
theorem dL_law_728 : decode cL_law 728 = .ok (.iconst 0, 1) := fo_dd DL_law_5 30 rfl
theorem dL_law_729 : decode cL_law 729 = .ok (.daload, 1) := fo_dd DL_law_5 31 rfl
theorem dL_law_730 : decode cL_law 730 = .ok (.dcmp .l, 1) := fo_dd DL_law_5 32 rfl
theorem dL_law_731 : decode cL_law 731 = .ok (.ifCond .eq 11, 3) := fo_dd DL_law_5 33 rfl
theorem dL_law_734 : decode cL_law 734 = .ok (.dload 7, 2) := fo_dd DL_law_5 34 rfl
theorem dL_law_736 : decode cL_law 736 = .ok (.dload 7, 2) := fo_dd DL_law_5 35 rfl
theorem dL_law_738 : decode cL_law 738 = .ok (.dcmp .l, 1) := fo_dd DL_law_5 36 rfl
theorem dL_law_739 : decode cL_law 739 = .ok (.ifCond .ne 5, 3) := fo_dd DL_law_5 37 rfl
theorem dL_law_742 : decode cL_law 742 = .ok (.iconst 0, 1) := fo_dd DL_law_5 38 rfl
theorem dL_law_743 : decode cL_law 743 = .ok (.ireturn, 1) := fo_dd DL_law_5 39 rfl
theorem dL_law_744 : decode cL_law 744 = .ok (.goto 1939, 3) := fo_dd DL_law_5 40 rfl
theorem dL_law_747 : decode cL_law 747 = .ok (.aload_n 1, 1) := fo_dd DL_law_5 41 rfl
theorem dL_law_748 : decode cL_law 748 = .ok (.aload_n 0, 1) := fo_dd DL_law_5 42 rfl
theorem dL_law_749 : decode cL_law 749 = .ok (.iload 5, 2) := fo_dd DL_law_5 43 rfl
theorem dL_law_751 : decode cL_law 751 = .ok (.iconst 1, 1) := fo_dd DL_law_5 44 rfl
theorem dL_law_752 : decode cL_law 752 = .ok (.iadd, 1) := fo_dd DL_law_5 45 rfl
theorem dL_law_753 : decode cL_law 753 = .ok (.iaload, 1) := fo_dd DL_law_5 46 rfl
theorem dL_law_754 : decode cL_law 754 = .ok (.aload_n 0, 1) := fo_dd DL_law_5 47 rfl
theorem dL_law_755 : decode cL_law 755 = .ok (.iload 5, 2) := fo_dd DL_law_5 48 rfl
theorem dL_law_757 : decode cL_law 757 = .ok (.iconst 2, 1) := fo_dd DL_law_5 49 rfl
theorem dL_law_758 : decode cL_law 758 = .ok (.iadd, 1) := fo_dd DL_law_5 50 rfl
theorem dL_law_759 : decode cL_law 759 = .ok (.iaload, 1) := fo_dd DL_law_5 51 rfl
theorem dL_law_760 : decode cL_law 760 = .ok (.aload 4, 2) := fo_dd DL_law_5 52 rfl
theorem dL_law_762 : decode cL_law 762 = .ok (.invokestatic 181, 3) := fo_dd DL_law_5 53 rfl
theorem dL_law_765 : decode cL_law 765 = .ok (.istore 6, 2) := fo_dd DL_law_5 54 rfl
theorem dL_law_767 : decode cL_law 767 = .ok (.aload_n 2, 1) := fo_dd DL_law_5 55 rfl
theorem dL_law_768 : decode cL_law 768 = .ok (.aload_n 0, 1) := fo_dd DL_law_5 56 rfl
theorem dL_law_769 : decode cL_law 769 = .ok (.iload 5, 2) := fo_dd DL_law_5 57 rfl
theorem dL_law_771 : decode cL_law 771 = .ok (.iconst 1, 1) := fo_dd DL_law_5 58 rfl
theorem dL_law_772 : decode cL_law 772 = .ok (.iadd, 1) := fo_dd DL_law_5 59 rfl
theorem dL_law_773 : decode cL_law 773 = .ok (.iaload, 1) := fo_dd DL_law_5 60 rfl
theorem dL_law_774 : decode cL_law 774 = .ok (.aload_n 0, 1) := fo_dd DL_law_5 61 rfl
theorem dL_law_775 : decode cL_law 775 = .ok (.iload 5, 2) := fo_dd DL_law_5 62 rfl
theorem dL_law_777 : decode cL_law 777 = .ok (.iconst 2, 1) := fo_dd DL_law_5 63 rfl
theorem DL_law_6 : fo_dl cL_law [(778, .iadd, 1), (779, .iaload, 1), (780, .invokevirtual 183, 3), (783, .dstore 7, 2), (785, .aload_n 2, 1), (786, .invokevirtual 154, 3), (789, .iload 6, 2), (791, .if_icmp .eq 5, 3), (794, .iconst 0, 1), (795, .ireturn, 1), (796, .iload 6, 2), (798, .ifCond .ne 35, 3), (801, .aload 4, 2), (803, .iconst 0, 1), (804, .daload, 1), (805, .dload 7, 2), (807, .dcmp .l, 1), (808, .ifCond .eq 25, 3), (811, .aload 4, 2), (813, .iconst 0, 1), (814, .daload, 1), (815, .aload 4, 2), (817, .iconst 0, 1), (818, .daload, 1), (819, .dcmp .l, 1), (820, .ifCond .eq 11, 3), (823, .dload 7, 2), (825, .dload 7, 2), (827, .dcmp .l, 1), (828, .ifCond .ne 5, 3), (831, .iconst 0, 1), (832, .ireturn, 1), (833, .goto 1850, 3), (836, .aload_n 1, 1), (837, .aload_n 0, 1), (838, .iload 5, 2), (840, .iconst 1, 1), (841, .iadd, 1), (842, .iaload, 1), (843, .aload_n 0, 1), (844, .iload 5, 2), (846, .iconst 2, 1), (847, .iadd, 1), (848, .iaload, 1), (849, .aload_n 3, 1), (850, .invokestatic 184, 3), (853, .istore 6, 2), (855, .aload_n 2, 1), (856, .aload_n 0, 1), (857, .iload 5, 2), (859, .iconst 1, 1), (860, .iadd, 1), (861, .iaload, 1), (862, .aload_n 0, 1), (863, .iload 5, 2), (865, .iconst 2, 1), (866, .iadd, 1), (867, .iaload, 1), (868, .invokevirtual 186, 3), (871, .istore 7, 2), (873, .aload_n 2, 1), (874, .invokevirtual 154, 3), (877, .iload 6, 2), (879, .if_icmp .eq 5, 3)] := by decide +kernel
theorem dL_law_778 : decode cL_law 778 = .ok (.iadd, 1) := fo_dd DL_law_6 0 rfl
theorem dL_law_779 : decode cL_law 779 = .ok (.iaload, 1) := fo_dd DL_law_6 1 rfl
theorem dL_law_780 : decode cL_law 780 = .ok (.invokevirtual 183, 3) := fo_dd DL_law_6 2 rfl
theorem dL_law_783 : decode cL_law 783 = .ok (.dstore 7, 2) := fo_dd DL_law_6 3 rfl
theorem dL_law_785 : decode cL_law 785 = .ok (.aload_n 2, 1) := fo_dd DL_law_6 4 rfl
theorem dL_law_786 : decode cL_law 786 = .ok (.invokevirtual 154, 3) := fo_dd DL_law_6 5 rfl
theorem dL_law_789 : decode cL_law 789 = .ok (.iload 6, 2) := fo_dd DL_law_6 6 rfl
theorem dL_law_791 : decode cL_law 791 = .ok (.if_icmp .eq 5, 3) := fo_dd DL_law_6 7 rfl
theorem dL_law_794 : decode cL_law 794 = .ok (.iconst 0, 1) := fo_dd DL_law_6 8 rfl
theorem dL_law_795 : decode cL_law 795 = .ok (.ireturn, 1) := fo_dd DL_law_6 9 rfl
theorem dL_law_796 : decode cL_law 796 = .ok (.iload 6, 2) := fo_dd DL_law_6 10 rfl
theorem dL_law_798 : decode cL_law 798 = .ok (.ifCond .ne 35, 3) := fo_dd DL_law_6 11 rfl
theorem dL_law_801 : decode cL_law 801 = .ok (.aload 4, 2) := fo_dd DL_law_6 12 rfl
theorem dL_law_803 : decode cL_law 803 = .ok (.iconst 0, 1) := fo_dd DL_law_6 13 rfl
theorem dL_law_804 : decode cL_law 804 = .ok (.daload, 1) := fo_dd DL_law_6 14 rfl
theorem dL_law_805 : decode cL_law 805 = .ok (.dload 7, 2) := fo_dd DL_law_6 15 rfl
theorem dL_law_807 : decode cL_law 807 = .ok (.dcmp .l, 1) := fo_dd DL_law_6 16 rfl
theorem dL_law_808 : decode cL_law 808 = .ok (.ifCond .eq 25, 3) := fo_dd DL_law_6 17 rfl
theorem dL_law_811 : decode cL_law 811 = .ok (.aload 4, 2) := fo_dd DL_law_6 18 rfl
theorem dL_law_813 : decode cL_law 813 = .ok (.iconst 0, 1) := fo_dd DL_law_6 19 rfl
theorem dL_law_814 : decode cL_law 814 = .ok (.daload, 1) := fo_dd DL_law_6 20 rfl
theorem dL_law_815 : decode cL_law 815 = .ok (.aload 4, 2) := fo_dd DL_law_6 21 rfl
theorem dL_law_817 : decode cL_law 817 = .ok (.iconst 0, 1) := fo_dd DL_law_6 22 rfl
theorem dL_law_818 : decode cL_law 818 = .ok (.daload, 1) := fo_dd DL_law_6 23 rfl
theorem dL_law_819 : decode cL_law 819 = .ok (.dcmp .l, 1) := fo_dd DL_law_6 24 rfl
theorem dL_law_820 : decode cL_law 820 = .ok (.ifCond .eq 11, 3) := fo_dd DL_law_6 25 rfl
theorem dL_law_823 : decode cL_law 823 = .ok (.dload 7, 2) := fo_dd DL_law_6 26 rfl
theorem dL_law_825 : decode cL_law 825 = .ok (.dload 7, 2) := fo_dd DL_law_6 27 rfl
theorem dL_law_827 : decode cL_law 827 = .ok (.dcmp .l, 1) := fo_dd DL_law_6 28 rfl
theorem dL_law_828 : decode cL_law 828 = .ok (.ifCond .ne 5, 3) := fo_dd DL_law_6 29 rfl
theorem dL_law_831 : decode cL_law 831 = .ok (.iconst 0, 1) := fo_dd DL_law_6 30 rfl
theorem dL_law_832 : decode cL_law 832 = .ok (.ireturn, 1) := fo_dd DL_law_6 31 rfl
theorem dL_law_833 : decode cL_law 833 = .ok (.goto 1850, 3) := fo_dd DL_law_6 32 rfl
theorem dL_law_836 : decode cL_law 836 = .ok (.aload_n 1, 1) := fo_dd DL_law_6 33 rfl
theorem dL_law_837 : decode cL_law 837 = .ok (.aload_n 0, 1) := fo_dd DL_law_6 34 rfl
theorem dL_law_838 : decode cL_law 838 = .ok (.iload 5, 2) := fo_dd DL_law_6 35 rfl
theorem dL_law_840 : decode cL_law 840 = .ok (.iconst 1, 1) := fo_dd DL_law_6 36 rfl
theorem dL_law_841 : decode cL_law 841 = .ok (.iadd, 1) := fo_dd DL_law_6 37 rfl
theorem dL_law_842 : decode cL_law 842 = .ok (.iaload, 1) := fo_dd DL_law_6 38 rfl
theorem dL_law_843 : decode cL_law 843 = .ok (.aload_n 0, 1) := fo_dd DL_law_6 39 rfl
theorem dL_law_844 : decode cL_law 844 = .ok (.iload 5, 2) := fo_dd DL_law_6 40 rfl
theorem dL_law_846 : decode cL_law 846 = .ok (.iconst 2, 1) := fo_dd DL_law_6 41 rfl
theorem dL_law_847 : decode cL_law 847 = .ok (.iadd, 1) := fo_dd DL_law_6 42 rfl
theorem dL_law_848 : decode cL_law 848 = .ok (.iaload, 1) := fo_dd DL_law_6 43 rfl
theorem dL_law_849 : decode cL_law 849 = .ok (.aload_n 3, 1) := fo_dd DL_law_6 44 rfl
theorem dL_law_850 : decode cL_law 850 = .ok (.invokestatic 184, 3) := fo_dd DL_law_6 45 rfl
theorem dL_law_853 : decode cL_law 853 = .ok (.istore 6, 2) := fo_dd DL_law_6 46 rfl
theorem dL_law_855 : decode cL_law 855 = .ok (.aload_n 2, 1) := fo_dd DL_law_6 47 rfl
theorem dL_law_856 : decode cL_law 856 = .ok (.aload_n 0, 1) := fo_dd DL_law_6 48 rfl
theorem dL_law_857 : decode cL_law 857 = .ok (.iload 5, 2) := fo_dd DL_law_6 49 rfl
theorem dL_law_859 : decode cL_law 859 = .ok (.iconst 1, 1) := fo_dd DL_law_6 50 rfl
theorem dL_law_860 : decode cL_law 860 = .ok (.iadd, 1) := fo_dd DL_law_6 51 rfl
theorem dL_law_861 : decode cL_law 861 = .ok (.iaload, 1) := fo_dd DL_law_6 52 rfl
theorem dL_law_862 : decode cL_law 862 = .ok (.aload_n 0, 1) := fo_dd DL_law_6 53 rfl
theorem dL_law_863 : decode cL_law 863 = .ok (.iload 5, 2) := fo_dd DL_law_6 54 rfl
theorem dL_law_865 : decode cL_law 865 = .ok (.iconst 2, 1) := fo_dd DL_law_6 55 rfl
theorem dL_law_866 : decode cL_law 866 = .ok (.iadd, 1) := fo_dd DL_law_6 56 rfl
theorem dL_law_867 : decode cL_law 867 = .ok (.iaload, 1) := fo_dd DL_law_6 57 rfl
theorem dL_law_868 : decode cL_law 868 = .ok (.invokevirtual 186, 3) := fo_dd DL_law_6 58 rfl
theorem dL_law_871 : decode cL_law 871 = .ok (.istore 7, 2) := fo_dd DL_law_6 59 rfl
theorem dL_law_873 : decode cL_law 873 = .ok (.aload_n 2, 1) := fo_dd DL_law_6 60 rfl
theorem dL_law_874 : decode cL_law 874 = .ok (.invokevirtual 154, 3) := fo_dd DL_law_6 61 rfl
theorem dL_law_877 : decode cL_law 877 = .ok (.iload 6, 2) := fo_dd DL_law_6 62 rfl
theorem dL_law_879 : decode cL_law 879 = .ok (.if_icmp .eq 5, 3) := fo_dd DL_law_6 63 rfl
theorem DL_law_7 : fo_dl cL_law [(882, .iconst 0, 1), (883, .ireturn, 1), (884, .iload 6, 2), (886, .ifCond .ne 15, 3), (889, .aload_n 3, 1), (890, .iconst 0, 1), (891, .laload, 1), (892, .iload 7, 2), (894, .i2l, 1), (895, .lcmp, 1), (896, .ifCond .eq 5, 3), (899, .iconst 0, 1), (900, .ireturn, 1), (901, .goto 1782, 3), (904, .aload_n 1, 1), (905, .aload_n 0, 1), (906, .iload 5, 2), (908, .iconst 1, 1), (909, .iadd, 1), (910, .iaload, 1), (911, .aload_n 0, 1), (912, .iload 5, 2), (914, .iconst 2, 1), (915, .iadd, 1), (916, .iaload, 1), (917, .aload_n 3, 1), (918, .invokestatic 187, 3), (921, .istore 6, 2), (923, .aload_n 2, 1), (924, .aload_n 0, 1), (925, .iload 5, 2), (927, .iconst 1, 1), (928, .iadd, 1), (929, .iaload, 1), (930, .aload_n 0, 1), (931, .iload 5, 2), (933, .iconst 2, 1), (934, .iadd, 1), (935, .iaload, 1), (936, .invokevirtual 189, 3), (939, .istore 7, 2), (941, .aload_n 2, 1), (942, .invokevirtual 154, 3), (945, .iload 6, 2), (947, .if_icmp .eq 5, 3), (950, .iconst 0, 1), (951, .ireturn, 1), (952, .iload 6, 2), (954, .ifCond .ne 15, 3), (957, .aload_n 3, 1), (958, .iconst 0, 1), (959, .laload, 1), (960, .iload 7, 2), (962, .i2l, 1), (963, .lcmp, 1), (964, .ifCond .eq 5, 3), (967, .iconst 0, 1), (968, .ireturn, 1), (969, .goto 1714, 3), (972, .aload_n 1, 1), (973, .aload_n 0, 1), (974, .iload 5, 2), (976, .iconst 1, 1), (977, .iadd, 1)] := by decide +kernel
theorem dL_law_882 : decode cL_law 882 = .ok (.iconst 0, 1) := fo_dd DL_law_7 0 rfl
theorem dL_law_883 : decode cL_law 883 = .ok (.ireturn, 1) := fo_dd DL_law_7 1 rfl
theorem dL_law_884 : decode cL_law 884 = .ok (.iload 6, 2) := fo_dd DL_law_7 2 rfl
theorem dL_law_886 : decode cL_law 886 = .ok (.ifCond .ne 15, 3) := fo_dd DL_law_7 3 rfl
theorem dL_law_889 : decode cL_law 889 = .ok (.aload_n 3, 1) := fo_dd DL_law_7 4 rfl
theorem dL_law_890 : decode cL_law 890 = .ok (.iconst 0, 1) := fo_dd DL_law_7 5 rfl
theorem dL_law_891 : decode cL_law 891 = .ok (.laload, 1) := fo_dd DL_law_7 6 rfl
theorem dL_law_892 : decode cL_law 892 = .ok (.iload 7, 2) := fo_dd DL_law_7 7 rfl
theorem dL_law_894 : decode cL_law 894 = .ok (.i2l, 1) := fo_dd DL_law_7 8 rfl
theorem dL_law_895 : decode cL_law 895 = .ok (.lcmp, 1) := fo_dd DL_law_7 9 rfl
theorem dL_law_896 : decode cL_law 896 = .ok (.ifCond .eq 5, 3) := fo_dd DL_law_7 10 rfl
theorem dL_law_899 : decode cL_law 899 = .ok (.iconst 0, 1) := fo_dd DL_law_7 11 rfl
theorem dL_law_900 : decode cL_law 900 = .ok (.ireturn, 1) := fo_dd DL_law_7 12 rfl
theorem dL_law_901 : decode cL_law 901 = .ok (.goto 1782, 3) := fo_dd DL_law_7 13 rfl
theorem dL_law_904 : decode cL_law 904 = .ok (.aload_n 1, 1) := fo_dd DL_law_7 14 rfl
theorem dL_law_905 : decode cL_law 905 = .ok (.aload_n 0, 1) := fo_dd DL_law_7 15 rfl
theorem dL_law_906 : decode cL_law 906 = .ok (.iload 5, 2) := fo_dd DL_law_7 16 rfl
theorem dL_law_908 : decode cL_law 908 = .ok (.iconst 1, 1) := fo_dd DL_law_7 17 rfl
theorem dL_law_909 : decode cL_law 909 = .ok (.iadd, 1) := fo_dd DL_law_7 18 rfl
theorem dL_law_910 : decode cL_law 910 = .ok (.iaload, 1) := fo_dd DL_law_7 19 rfl
theorem dL_law_911 : decode cL_law 911 = .ok (.aload_n 0, 1) := fo_dd DL_law_7 20 rfl
theorem dL_law_912 : decode cL_law 912 = .ok (.iload 5, 2) := fo_dd DL_law_7 21 rfl
theorem dL_law_914 : decode cL_law 914 = .ok (.iconst 2, 1) := fo_dd DL_law_7 22 rfl
theorem dL_law_915 : decode cL_law 915 = .ok (.iadd, 1) := fo_dd DL_law_7 23 rfl
theorem dL_law_916 : decode cL_law 916 = .ok (.iaload, 1) := fo_dd DL_law_7 24 rfl
theorem dL_law_917 : decode cL_law 917 = .ok (.aload_n 3, 1) := fo_dd DL_law_7 25 rfl
theorem dL_law_918 : decode cL_law 918 = .ok (.invokestatic 187, 3) := fo_dd DL_law_7 26 rfl
theorem dL_law_921 : decode cL_law 921 = .ok (.istore 6, 2) := fo_dd DL_law_7 27 rfl
theorem dL_law_923 : decode cL_law 923 = .ok (.aload_n 2, 1) := fo_dd DL_law_7 28 rfl
theorem dL_law_924 : decode cL_law 924 = .ok (.aload_n 0, 1) := fo_dd DL_law_7 29 rfl
theorem dL_law_925 : decode cL_law 925 = .ok (.iload 5, 2) := fo_dd DL_law_7 30 rfl
theorem dL_law_927 : decode cL_law 927 = .ok (.iconst 1, 1) := fo_dd DL_law_7 31 rfl
theorem dL_law_928 : decode cL_law 928 = .ok (.iadd, 1) := fo_dd DL_law_7 32 rfl
theorem dL_law_929 : decode cL_law 929 = .ok (.iaload, 1) := fo_dd DL_law_7 33 rfl
theorem dL_law_930 : decode cL_law 930 = .ok (.aload_n 0, 1) := fo_dd DL_law_7 34 rfl
theorem dL_law_931 : decode cL_law 931 = .ok (.iload 5, 2) := fo_dd DL_law_7 35 rfl
theorem dL_law_933 : decode cL_law 933 = .ok (.iconst 2, 1) := fo_dd DL_law_7 36 rfl
theorem dL_law_934 : decode cL_law 934 = .ok (.iadd, 1) := fo_dd DL_law_7 37 rfl
theorem dL_law_935 : decode cL_law 935 = .ok (.iaload, 1) := fo_dd DL_law_7 38 rfl
theorem dL_law_936 : decode cL_law 936 = .ok (.invokevirtual 189, 3) := fo_dd DL_law_7 39 rfl
theorem dL_law_939 : decode cL_law 939 = .ok (.istore 7, 2) := fo_dd DL_law_7 40 rfl
theorem dL_law_941 : decode cL_law 941 = .ok (.aload_n 2, 1) := fo_dd DL_law_7 41 rfl
theorem dL_law_942 : decode cL_law 942 = .ok (.invokevirtual 154, 3) := fo_dd DL_law_7 42 rfl
theorem dL_law_945 : decode cL_law 945 = .ok (.iload 6, 2) := fo_dd DL_law_7 43 rfl
theorem dL_law_947 : decode cL_law 947 = .ok (.if_icmp .eq 5, 3) := fo_dd DL_law_7 44 rfl
theorem dL_law_950 : decode cL_law 950 = .ok (.iconst 0, 1) := fo_dd DL_law_7 45 rfl
theorem dL_law_951 : decode cL_law 951 = .ok (.ireturn, 1) := fo_dd DL_law_7 46 rfl
theorem dL_law_952 : decode cL_law 952 = .ok (.iload 6, 2) := fo_dd DL_law_7 47 rfl
theorem dL_law_954 : decode cL_law 954 = .ok (.ifCond .ne 15, 3) := fo_dd DL_law_7 48 rfl
theorem dL_law_957 : decode cL_law 957 = .ok (.aload_n 3, 1) := fo_dd DL_law_7 49 rfl
theorem dL_law_958 : decode cL_law 958 = .ok (.iconst 0, 1) := fo_dd DL_law_7 50 rfl
theorem dL_law_959 : decode cL_law 959 = .ok (.laload, 1) := fo_dd DL_law_7 51 rfl
theorem dL_law_960 : decode cL_law 960 = .ok (.iload 7, 2) := fo_dd DL_law_7 52 rfl
theorem dL_law_962 : decode cL_law 962 = .ok (.i2l, 1) := fo_dd DL_law_7 53 rfl
theorem dL_law_963 : decode cL_law 963 = .ok (.lcmp, 1) := fo_dd DL_law_7 54 rfl
theorem dL_law_964 : decode cL_law 964 = .ok (.ifCond .eq 5, 3) := fo_dd DL_law_7 55 rfl
theorem dL_law_967 : decode cL_law 967 = .ok (.iconst 0, 1) := fo_dd DL_law_7 56 rfl
theorem dL_law_968 : decode cL_law 968 = .ok (.ireturn, 1) := fo_dd DL_law_7 57 rfl
theorem dL_law_969 : decode cL_law 969 = .ok (.goto 1714, 3) := fo_dd DL_law_7 58 rfl
theorem dL_law_972 : decode cL_law 972 = .ok (.aload_n 1, 1) := fo_dd DL_law_7 59 rfl
theorem dL_law_973 : decode cL_law 973 = .ok (.aload_n 0, 1) := fo_dd DL_law_7 60 rfl
theorem dL_law_974 : decode cL_law 974 = .ok (.iload 5, 2) := fo_dd DL_law_7 61 rfl
theorem dL_law_976 : decode cL_law 976 = .ok (.iconst 1, 1) := fo_dd DL_law_7 62 rfl
theorem dL_law_977 : decode cL_law 977 = .ok (.iadd, 1) := fo_dd DL_law_7 63 rfl
theorem DL_law_8 : fo_dl cL_law [(978, .iaload, 1), (979, .aload_n 0, 1), (980, .iload 5, 2), (982, .iconst 2, 1), (983, .iadd, 1), (984, .iaload, 1), (985, .aload 4, 2), (987, .invokestatic 190, 3), (990, .istore 6, 2), (992, .aload_n 2, 1), (993, .aload_n 0, 1), (994, .iload 5, 2), (996, .iconst 1, 1), (997, .iadd, 1), (998, .iaload, 1), (999, .aload_n 0, 1), (1000, .iload 5, 2), (1002, .iconst 2, 1), (1003, .iadd, 1), (1004, .iaload, 1), (1005, .invokevirtual 192, 3), (1008, .dstore 7, 2), (1010, .aload_n 2, 1), (1011, .invokevirtual 154, 3), (1014, .iload 6, 2), (1016, .if_icmp .eq 5, 3), (1019, .iconst 0, 1), (1020, .ireturn, 1), (1021, .iload 6, 2), (1023, .ifCond .ne 35, 3), (1026, .aload 4, 2), (1028, .iconst 0, 1), (1029, .daload, 1), (1030, .dload 7, 2), (1032, .dcmp .l, 1), (1033, .ifCond .eq 25, 3), (1036, .aload 4, 2), (1038, .iconst 0, 1), (1039, .daload, 1), (1040, .aload 4, 2), (1042, .iconst 0, 1), (1043, .daload, 1), (1044, .dcmp .l, 1), (1045, .ifCond .eq 11, 3), (1048, .dload 7, 2), (1050, .dload 7, 2), (1052, .dcmp .l, 1), (1053, .ifCond .ne 5, 3), (1056, .iconst 0, 1), (1057, .ireturn, 1), (1058, .goto 1625, 3), (1061, .aload_n 1, 1), (1062, .aload_n 0, 1), (1063, .iload 5, 2), (1065, .iconst 1, 1), (1066, .iadd, 1), (1067, .iaload, 1), (1068, .aload_n 0, 1), (1069, .iload 5, 2), (1071, .iconst 2, 1), (1072, .iadd, 1), (1073, .iaload, 1), (1074, .aload_n 3, 1), (1075, .invokestatic 193, 3)] := by decide +kernel
theorem dL_law_978 : decode cL_law 978 = .ok (.iaload, 1) := fo_dd DL_law_8 0 rfl
theorem dL_law_979 : decode cL_law 979 = .ok (.aload_n 0, 1) := fo_dd DL_law_8 1 rfl
theorem dL_law_980 : decode cL_law 980 = .ok (.iload 5, 2) := fo_dd DL_law_8 2 rfl
theorem dL_law_982 : decode cL_law 982 = .ok (.iconst 2, 1) := fo_dd DL_law_8 3 rfl
theorem dL_law_983 : decode cL_law 983 = .ok (.iadd, 1) := fo_dd DL_law_8 4 rfl
theorem dL_law_984 : decode cL_law 984 = .ok (.iaload, 1) := fo_dd DL_law_8 5 rfl
theorem dL_law_985 : decode cL_law 985 = .ok (.aload 4, 2) := fo_dd DL_law_8 6 rfl
theorem dL_law_987 : decode cL_law 987 = .ok (.invokestatic 190, 3) := fo_dd DL_law_8 7 rfl
theorem dL_law_990 : decode cL_law 990 = .ok (.istore 6, 2) := fo_dd DL_law_8 8 rfl
theorem dL_law_992 : decode cL_law 992 = .ok (.aload_n 2, 1) := fo_dd DL_law_8 9 rfl
theorem dL_law_993 : decode cL_law 993 = .ok (.aload_n 0, 1) := fo_dd DL_law_8 10 rfl
theorem dL_law_994 : decode cL_law 994 = .ok (.iload 5, 2) := fo_dd DL_law_8 11 rfl
theorem dL_law_996 : decode cL_law 996 = .ok (.iconst 1, 1) := fo_dd DL_law_8 12 rfl
theorem dL_law_997 : decode cL_law 997 = .ok (.iadd, 1) := fo_dd DL_law_8 13 rfl
theorem dL_law_998 : decode cL_law 998 = .ok (.iaload, 1) := fo_dd DL_law_8 14 rfl
theorem dL_law_999 : decode cL_law 999 = .ok (.aload_n 0, 1) := fo_dd DL_law_8 15 rfl
theorem dL_law_1000 : decode cL_law 1000 = .ok (.iload 5, 2) := fo_dd DL_law_8 16 rfl
theorem dL_law_1002 : decode cL_law 1002 = .ok (.iconst 2, 1) := fo_dd DL_law_8 17 rfl
theorem dL_law_1003 : decode cL_law 1003 = .ok (.iadd, 1) := fo_dd DL_law_8 18 rfl
theorem dL_law_1004 : decode cL_law 1004 = .ok (.iaload, 1) := fo_dd DL_law_8 19 rfl
theorem dL_law_1005 : decode cL_law 1005 = .ok (.invokevirtual 192, 3) := fo_dd DL_law_8 20 rfl
theorem dL_law_1008 : decode cL_law 1008 = .ok (.dstore 7, 2) := fo_dd DL_law_8 21 rfl
theorem dL_law_1010 : decode cL_law 1010 = .ok (.aload_n 2, 1) := fo_dd DL_law_8 22 rfl
theorem dL_law_1011 : decode cL_law 1011 = .ok (.invokevirtual 154, 3) := fo_dd DL_law_8 23 rfl
theorem dL_law_1014 : decode cL_law 1014 = .ok (.iload 6, 2) := fo_dd DL_law_8 24 rfl
theorem dL_law_1016 : decode cL_law 1016 = .ok (.if_icmp .eq 5, 3) := fo_dd DL_law_8 25 rfl
theorem dL_law_1019 : decode cL_law 1019 = .ok (.iconst 0, 1) := fo_dd DL_law_8 26 rfl
theorem dL_law_1020 : decode cL_law 1020 = .ok (.ireturn, 1) := fo_dd DL_law_8 27 rfl
theorem dL_law_1021 : decode cL_law 1021 = .ok (.iload 6, 2) := fo_dd DL_law_8 28 rfl
theorem dL_law_1023 : decode cL_law 1023 = .ok (.ifCond .ne 35, 3) := fo_dd DL_law_8 29 rfl
theorem dL_law_1026 : decode cL_law 1026 = .ok (.aload 4, 2) := fo_dd DL_law_8 30 rfl
theorem dL_law_1028 : decode cL_law 1028 = .ok (.iconst 0, 1) := fo_dd DL_law_8 31 rfl
theorem dL_law_1029 : decode cL_law 1029 = .ok (.daload, 1) := fo_dd DL_law_8 32 rfl
theorem dL_law_1030 : decode cL_law 1030 = .ok (.dload 7, 2) := fo_dd DL_law_8 33 rfl
theorem dL_law_1032 : decode cL_law 1032 = .ok (.dcmp .l, 1) := fo_dd DL_law_8 34 rfl
theorem dL_law_1033 : decode cL_law 1033 = .ok (.ifCond .eq 25, 3) := fo_dd DL_law_8 35 rfl
theorem dL_law_1036 : decode cL_law 1036 = .ok (.aload 4, 2) := fo_dd DL_law_8 36 rfl
theorem dL_law_1038 : decode cL_law 1038 = .ok (.iconst 0, 1) := fo_dd DL_law_8 37 rfl
theorem dL_law_1039 : decode cL_law 1039 = .ok (.daload, 1) := fo_dd DL_law_8 38 rfl
theorem dL_law_1040 : decode cL_law 1040 = .ok (.aload 4, 2) := fo_dd DL_law_8 39 rfl
theorem dL_law_1042 : decode cL_law 1042 = .ok (.iconst 0, 1) := fo_dd DL_law_8 40 rfl
theorem dL_law_1043 : decode cL_law 1043 = .ok (.daload, 1) := fo_dd DL_law_8 41 rfl
theorem dL_law_1044 : decode cL_law 1044 = .ok (.dcmp .l, 1) := fo_dd DL_law_8 42 rfl
theorem dL_law_1045 : decode cL_law 1045 = .ok (.ifCond .eq 11, 3) := fo_dd DL_law_8 43 rfl
theorem dL_law_1048 : decode cL_law 1048 = .ok (.dload 7, 2) := fo_dd DL_law_8 44 rfl
theorem dL_law_1050 : decode cL_law 1050 = .ok (.dload 7, 2) := fo_dd DL_law_8 45 rfl
theorem dL_law_1052 : decode cL_law 1052 = .ok (.dcmp .l, 1) := fo_dd DL_law_8 46 rfl
theorem dL_law_1053 : decode cL_law 1053 = .ok (.ifCond .ne 5, 3) := fo_dd DL_law_8 47 rfl
theorem dL_law_1056 : decode cL_law 1056 = .ok (.iconst 0, 1) := fo_dd DL_law_8 48 rfl
theorem dL_law_1057 : decode cL_law 1057 = .ok (.ireturn, 1) := fo_dd DL_law_8 49 rfl
theorem dL_law_1058 : decode cL_law 1058 = .ok (.goto 1625, 3) := fo_dd DL_law_8 50 rfl
theorem dL_law_1061 : decode cL_law 1061 = .ok (.aload_n 1, 1) := fo_dd DL_law_8 51 rfl
theorem dL_law_1062 : decode cL_law 1062 = .ok (.aload_n 0, 1) := fo_dd DL_law_8 52 rfl
theorem dL_law_1063 : decode cL_law 1063 = .ok (.iload 5, 2) := fo_dd DL_law_8 53 rfl
theorem dL_law_1065 : decode cL_law 1065 = .ok (.iconst 1, 1) := fo_dd DL_law_8 54 rfl
theorem dL_law_1066 : decode cL_law 1066 = .ok (.iadd, 1) := fo_dd DL_law_8 55 rfl
theorem dL_law_1067 : decode cL_law 1067 = .ok (.iaload, 1) := fo_dd DL_law_8 56 rfl
theorem dL_law_1068 : decode cL_law 1068 = .ok (.aload_n 0, 1) := fo_dd DL_law_8 57 rfl
theorem dL_law_1069 : decode cL_law 1069 = .ok (.iload 5, 2) := fo_dd DL_law_8 58 rfl
theorem dL_law_1071 : decode cL_law 1071 = .ok (.iconst 2, 1) := fo_dd DL_law_8 59 rfl
theorem dL_law_1072 : decode cL_law 1072 = .ok (.iadd, 1) := fo_dd DL_law_8 60 rfl
theorem dL_law_1073 : decode cL_law 1073 = .ok (.iaload, 1) := fo_dd DL_law_8 61 rfl
theorem dL_law_1074 : decode cL_law 1074 = .ok (.aload_n 3, 1) := fo_dd DL_law_8 62 rfl
theorem dL_law_1075 : decode cL_law 1075 = .ok (.invokestatic 193, 3) := fo_dd DL_law_8 63 rfl
theorem DL_law_9 : fo_dl cL_law [(1078, .istore 6, 2), (1080, .aload_n 2, 1), (1081, .aload_n 0, 1), (1082, .iload 5, 2), (1084, .iconst 1, 1), (1085, .iadd, 1), (1086, .iaload, 1), (1087, .aload_n 0, 1), (1088, .iload 5, 2), (1090, .iconst 2, 1), (1091, .iadd, 1), (1092, .iaload, 1), (1093, .invokevirtual 195, 3), (1096, .istore 7, 2), (1098, .aload_n 2, 1), (1099, .invokevirtual 154, 3), (1102, .iload 6, 2), (1104, .if_icmp .eq 5, 3), (1107, .iconst 0, 1), (1108, .ireturn, 1), (1109, .iload 6, 2), (1111, .ifCond .ne 22, 3), (1114, .aload_n 3, 1), (1115, .iconst 0, 1), (1116, .laload, 1), (1117, .iload 7, 2), (1119, .ifCond .eq 7, 3), (1122, .lconst 1, 1), (1123, .goto 4, 3), (1126, .lconst 0, 1), (1127, .lcmp, 1), (1128, .ifCond .eq 5, 3), (1131, .iconst 0, 1), (1132, .ireturn, 1), (1133, .goto 1550, 3), (1136, .aload_n 1, 1), (1137, .aload_n 0, 1), (1138, .iload 5, 2), (1140, .iconst 1, 1), (1141, .iadd, 1), (1142, .iaload, 1), (1143, .aload_n 3, 1), (1144, .invokestatic 196, 3), (1147, .istore 6, 2), (1149, .aload_n 2, 1), (1150, .aload_n 0, 1), (1151, .iload 5, 2), (1153, .iconst 1, 1), (1154, .iadd, 1), (1155, .iaload, 1), (1156, .invokevirtual 198, 3), (1159, .istore 7, 2), (1161, .aload_n 2, 1), (1162, .invokevirtual 154, 3), (1165, .iload 6, 2), (1167, .if_icmp .eq 5, 3), (1170, .iconst 0, 1), (1171, .ireturn, 1), (1172, .iload 6, 2), (1174, .ifCond .ne 15, 3), (1177, .aload_n 3, 1), (1178, .iconst 0, 1), (1179, .laload, 1), (1180, .iload 7, 2)] := by decide +kernel
theorem dL_law_1078 : decode cL_law 1078 = .ok (.istore 6, 2) := fo_dd DL_law_9 0 rfl
theorem dL_law_1080 : decode cL_law 1080 = .ok (.aload_n 2, 1) := fo_dd DL_law_9 1 rfl
theorem dL_law_1081 : decode cL_law 1081 = .ok (.aload_n 0, 1) := fo_dd DL_law_9 2 rfl
theorem dL_law_1082 : decode cL_law 1082 = .ok (.iload 5, 2) := fo_dd DL_law_9 3 rfl
theorem dL_law_1084 : decode cL_law 1084 = .ok (.iconst 1, 1) := fo_dd DL_law_9 4 rfl
theorem dL_law_1085 : decode cL_law 1085 = .ok (.iadd, 1) := fo_dd DL_law_9 5 rfl
theorem dL_law_1086 : decode cL_law 1086 = .ok (.iaload, 1) := fo_dd DL_law_9 6 rfl
theorem dL_law_1087 : decode cL_law 1087 = .ok (.aload_n 0, 1) := fo_dd DL_law_9 7 rfl
theorem dL_law_1088 : decode cL_law 1088 = .ok (.iload 5, 2) := fo_dd DL_law_9 8 rfl
theorem dL_law_1090 : decode cL_law 1090 = .ok (.iconst 2, 1) := fo_dd DL_law_9 9 rfl
theorem dL_law_1091 : decode cL_law 1091 = .ok (.iadd, 1) := fo_dd DL_law_9 10 rfl
theorem dL_law_1092 : decode cL_law 1092 = .ok (.iaload, 1) := fo_dd DL_law_9 11 rfl
theorem dL_law_1093 : decode cL_law 1093 = .ok (.invokevirtual 195, 3) := fo_dd DL_law_9 12 rfl
theorem dL_law_1096 : decode cL_law 1096 = .ok (.istore 7, 2) := fo_dd DL_law_9 13 rfl
theorem dL_law_1098 : decode cL_law 1098 = .ok (.aload_n 2, 1) := fo_dd DL_law_9 14 rfl
theorem dL_law_1099 : decode cL_law 1099 = .ok (.invokevirtual 154, 3) := fo_dd DL_law_9 15 rfl
theorem dL_law_1102 : decode cL_law 1102 = .ok (.iload 6, 2) := fo_dd DL_law_9 16 rfl
theorem dL_law_1104 : decode cL_law 1104 = .ok (.if_icmp .eq 5, 3) := fo_dd DL_law_9 17 rfl
theorem dL_law_1107 : decode cL_law 1107 = .ok (.iconst 0, 1) := fo_dd DL_law_9 18 rfl
theorem dL_law_1108 : decode cL_law 1108 = .ok (.ireturn, 1) := fo_dd DL_law_9 19 rfl
theorem dL_law_1109 : decode cL_law 1109 = .ok (.iload 6, 2) := fo_dd DL_law_9 20 rfl
theorem dL_law_1111 : decode cL_law 1111 = .ok (.ifCond .ne 22, 3) := fo_dd DL_law_9 21 rfl
theorem dL_law_1114 : decode cL_law 1114 = .ok (.aload_n 3, 1) := fo_dd DL_law_9 22 rfl
theorem dL_law_1115 : decode cL_law 1115 = .ok (.iconst 0, 1) := fo_dd DL_law_9 23 rfl
theorem dL_law_1116 : decode cL_law 1116 = .ok (.laload, 1) := fo_dd DL_law_9 24 rfl
theorem dL_law_1117 : decode cL_law 1117 = .ok (.iload 7, 2) := fo_dd DL_law_9 25 rfl
theorem dL_law_1119 : decode cL_law 1119 = .ok (.ifCond .eq 7, 3) := fo_dd DL_law_9 26 rfl
theorem dL_law_1122 : decode cL_law 1122 = .ok (.lconst 1, 1) := fo_dd DL_law_9 27 rfl
theorem dL_law_1123 : decode cL_law 1123 = .ok (.goto 4, 3) := fo_dd DL_law_9 28 rfl
theorem dL_law_1126 : decode cL_law 1126 = .ok (.lconst 0, 1) := fo_dd DL_law_9 29 rfl
theorem dL_law_1127 : decode cL_law 1127 = .ok (.lcmp, 1) := fo_dd DL_law_9 30 rfl
theorem dL_law_1128 : decode cL_law 1128 = .ok (.ifCond .eq 5, 3) := fo_dd DL_law_9 31 rfl
theorem dL_law_1131 : decode cL_law 1131 = .ok (.iconst 0, 1) := fo_dd DL_law_9 32 rfl
theorem dL_law_1132 : decode cL_law 1132 = .ok (.ireturn, 1) := fo_dd DL_law_9 33 rfl
theorem dL_law_1133 : decode cL_law 1133 = .ok (.goto 1550, 3) := fo_dd DL_law_9 34 rfl
theorem dL_law_1136 : decode cL_law 1136 = .ok (.aload_n 1, 1) := fo_dd DL_law_9 35 rfl
theorem dL_law_1137 : decode cL_law 1137 = .ok (.aload_n 0, 1) := fo_dd DL_law_9 36 rfl
theorem dL_law_1138 : decode cL_law 1138 = .ok (.iload 5, 2) := fo_dd DL_law_9 37 rfl
theorem dL_law_1140 : decode cL_law 1140 = .ok (.iconst 1, 1) := fo_dd DL_law_9 38 rfl
theorem dL_law_1141 : decode cL_law 1141 = .ok (.iadd, 1) := fo_dd DL_law_9 39 rfl
theorem dL_law_1142 : decode cL_law 1142 = .ok (.iaload, 1) := fo_dd DL_law_9 40 rfl
theorem dL_law_1143 : decode cL_law 1143 = .ok (.aload_n 3, 1) := fo_dd DL_law_9 41 rfl
theorem dL_law_1144 : decode cL_law 1144 = .ok (.invokestatic 196, 3) := fo_dd DL_law_9 42 rfl
theorem dL_law_1147 : decode cL_law 1147 = .ok (.istore 6, 2) := fo_dd DL_law_9 43 rfl
theorem dL_law_1149 : decode cL_law 1149 = .ok (.aload_n 2, 1) := fo_dd DL_law_9 44 rfl
theorem dL_law_1150 : decode cL_law 1150 = .ok (.aload_n 0, 1) := fo_dd DL_law_9 45 rfl
theorem dL_law_1151 : decode cL_law 1151 = .ok (.iload 5, 2) := fo_dd DL_law_9 46 rfl
theorem dL_law_1153 : decode cL_law 1153 = .ok (.iconst 1, 1) := fo_dd DL_law_9 47 rfl
theorem dL_law_1154 : decode cL_law 1154 = .ok (.iadd, 1) := fo_dd DL_law_9 48 rfl
theorem dL_law_1155 : decode cL_law 1155 = .ok (.iaload, 1) := fo_dd DL_law_9 49 rfl
theorem dL_law_1156 : decode cL_law 1156 = .ok (.invokevirtual 198, 3) := fo_dd DL_law_9 50 rfl
theorem dL_law_1159 : decode cL_law 1159 = .ok (.istore 7, 2) := fo_dd DL_law_9 51 rfl
theorem dL_law_1161 : decode cL_law 1161 = .ok (.aload_n 2, 1) := fo_dd DL_law_9 52 rfl
theorem dL_law_1162 : decode cL_law 1162 = .ok (.invokevirtual 154, 3) := fo_dd DL_law_9 53 rfl
theorem dL_law_1165 : decode cL_law 1165 = .ok (.iload 6, 2) := fo_dd DL_law_9 54 rfl
theorem dL_law_1167 : decode cL_law 1167 = .ok (.if_icmp .eq 5, 3) := fo_dd DL_law_9 55 rfl
theorem dL_law_1170 : decode cL_law 1170 = .ok (.iconst 0, 1) := fo_dd DL_law_9 56 rfl
theorem dL_law_1171 : decode cL_law 1171 = .ok (.ireturn, 1) := fo_dd DL_law_9 57 rfl
theorem dL_law_1172 : decode cL_law 1172 = .ok (.iload 6, 2) := fo_dd DL_law_9 58 rfl
theorem dL_law_1174 : decode cL_law 1174 = .ok (.ifCond .ne 15, 3) := fo_dd DL_law_9 59 rfl
theorem dL_law_1177 : decode cL_law 1177 = .ok (.aload_n 3, 1) := fo_dd DL_law_9 60 rfl
theorem dL_law_1178 : decode cL_law 1178 = .ok (.iconst 0, 1) := fo_dd DL_law_9 61 rfl
theorem dL_law_1179 : decode cL_law 1179 = .ok (.laload, 1) := fo_dd DL_law_9 62 rfl
theorem dL_law_1180 : decode cL_law 1180 = .ok (.iload 7, 2) := fo_dd DL_law_9 63 rfl
theorem DL_law_10 : fo_dl cL_law [(1182, .i2l, 1), (1183, .lcmp, 1), (1184, .ifCond .eq 5, 3), (1187, .iconst 0, 1), (1188, .ireturn, 1), (1189, .goto 1494, 3), (1192, .aload_n 1, 1), (1193, .aload_n 0, 1), (1194, .iload 5, 2), (1196, .iconst 1, 1), (1197, .iadd, 1), (1198, .iaload, 1), (1199, .aload_n 3, 1), (1200, .invokestatic 199, 3), (1203, .istore 6, 2), (1205, .aload_n 2, 1), (1206, .aload_n 0, 1), (1207, .iload 5, 2), (1209, .iconst 1, 1), (1210, .iadd, 1), (1211, .iaload, 1), (1212, .invokevirtual 201, 3), (1215, .istore 7, 2), (1217, .aload_n 2, 1), (1218, .invokevirtual 154, 3), (1221, .iload 6, 2), (1223, .if_icmp .eq 5, 3), (1226, .iconst 0, 1), (1227, .ireturn, 1), (1228, .iload 6, 2), (1230, .ifCond .ne 15, 3), (1233, .aload_n 3, 1), (1234, .iconst 0, 1), (1235, .laload, 1), (1236, .iload 7, 2), (1238, .i2l, 1), (1239, .lcmp, 1), (1240, .ifCond .eq 5, 3), (1243, .iconst 0, 1), (1244, .ireturn, 1), (1245, .goto 1438, 3), (1248, .aload_n 1, 1), (1249, .aload_n 0, 1), (1250, .iload 5, 2), (1252, .iconst 1, 1), (1253, .iadd, 1), (1254, .iaload, 1), (1255, .aload_n 0, 1), (1256, .iload 5, 2), (1258, .iconst 2, 1), (1259, .iadd, 1), (1260, .iaload, 1), (1261, .aload_n 0, 1), (1262, .iload 5, 2), (1264, .iconst 3, 1), (1265, .iadd, 1), (1266, .iaload, 1), (1267, .aload_n 3, 1), (1268, .invokestatic 202, 3), (1271, .istore 6, 2), (1273, .aload_n 2, 1), (1274, .aload_n 0, 1), (1275, .iload 5, 2), (1277, .iconst 1, 1)] := by decide +kernel
theorem dL_law_1182 : decode cL_law 1182 = .ok (.i2l, 1) := fo_dd DL_law_10 0 rfl
theorem dL_law_1183 : decode cL_law 1183 = .ok (.lcmp, 1) := fo_dd DL_law_10 1 rfl
theorem dL_law_1184 : decode cL_law 1184 = .ok (.ifCond .eq 5, 3) := fo_dd DL_law_10 2 rfl
theorem dL_law_1187 : decode cL_law 1187 = .ok (.iconst 0, 1) := fo_dd DL_law_10 3 rfl
theorem dL_law_1188 : decode cL_law 1188 = .ok (.ireturn, 1) := fo_dd DL_law_10 4 rfl
theorem dL_law_1189 : decode cL_law 1189 = .ok (.goto 1494, 3) := fo_dd DL_law_10 5 rfl
theorem dL_law_1192 : decode cL_law 1192 = .ok (.aload_n 1, 1) := fo_dd DL_law_10 6 rfl
theorem dL_law_1193 : decode cL_law 1193 = .ok (.aload_n 0, 1) := fo_dd DL_law_10 7 rfl
theorem dL_law_1194 : decode cL_law 1194 = .ok (.iload 5, 2) := fo_dd DL_law_10 8 rfl
theorem dL_law_1196 : decode cL_law 1196 = .ok (.iconst 1, 1) := fo_dd DL_law_10 9 rfl
theorem dL_law_1197 : decode cL_law 1197 = .ok (.iadd, 1) := fo_dd DL_law_10 10 rfl
theorem dL_law_1198 : decode cL_law 1198 = .ok (.iaload, 1) := fo_dd DL_law_10 11 rfl
theorem dL_law_1199 : decode cL_law 1199 = .ok (.aload_n 3, 1) := fo_dd DL_law_10 12 rfl
theorem dL_law_1200 : decode cL_law 1200 = .ok (.invokestatic 199, 3) := fo_dd DL_law_10 13 rfl
theorem dL_law_1203 : decode cL_law 1203 = .ok (.istore 6, 2) := fo_dd DL_law_10 14 rfl
theorem dL_law_1205 : decode cL_law 1205 = .ok (.aload_n 2, 1) := fo_dd DL_law_10 15 rfl
theorem dL_law_1206 : decode cL_law 1206 = .ok (.aload_n 0, 1) := fo_dd DL_law_10 16 rfl
theorem dL_law_1207 : decode cL_law 1207 = .ok (.iload 5, 2) := fo_dd DL_law_10 17 rfl
theorem dL_law_1209 : decode cL_law 1209 = .ok (.iconst 1, 1) := fo_dd DL_law_10 18 rfl
theorem dL_law_1210 : decode cL_law 1210 = .ok (.iadd, 1) := fo_dd DL_law_10 19 rfl
theorem dL_law_1211 : decode cL_law 1211 = .ok (.iaload, 1) := fo_dd DL_law_10 20 rfl
theorem dL_law_1212 : decode cL_law 1212 = .ok (.invokevirtual 201, 3) := fo_dd DL_law_10 21 rfl
theorem dL_law_1215 : decode cL_law 1215 = .ok (.istore 7, 2) := fo_dd DL_law_10 22 rfl
theorem dL_law_1217 : decode cL_law 1217 = .ok (.aload_n 2, 1) := fo_dd DL_law_10 23 rfl
theorem dL_law_1218 : decode cL_law 1218 = .ok (.invokevirtual 154, 3) := fo_dd DL_law_10 24 rfl
theorem dL_law_1221 : decode cL_law 1221 = .ok (.iload 6, 2) := fo_dd DL_law_10 25 rfl
theorem dL_law_1223 : decode cL_law 1223 = .ok (.if_icmp .eq 5, 3) := fo_dd DL_law_10 26 rfl
theorem dL_law_1226 : decode cL_law 1226 = .ok (.iconst 0, 1) := fo_dd DL_law_10 27 rfl
theorem dL_law_1227 : decode cL_law 1227 = .ok (.ireturn, 1) := fo_dd DL_law_10 28 rfl
theorem dL_law_1228 : decode cL_law 1228 = .ok (.iload 6, 2) := fo_dd DL_law_10 29 rfl
theorem dL_law_1230 : decode cL_law 1230 = .ok (.ifCond .ne 15, 3) := fo_dd DL_law_10 30 rfl
theorem dL_law_1233 : decode cL_law 1233 = .ok (.aload_n 3, 1) := fo_dd DL_law_10 31 rfl
theorem dL_law_1234 : decode cL_law 1234 = .ok (.iconst 0, 1) := fo_dd DL_law_10 32 rfl
theorem dL_law_1235 : decode cL_law 1235 = .ok (.laload, 1) := fo_dd DL_law_10 33 rfl
theorem dL_law_1236 : decode cL_law 1236 = .ok (.iload 7, 2) := fo_dd DL_law_10 34 rfl
theorem dL_law_1238 : decode cL_law 1238 = .ok (.i2l, 1) := fo_dd DL_law_10 35 rfl
theorem dL_law_1239 : decode cL_law 1239 = .ok (.lcmp, 1) := fo_dd DL_law_10 36 rfl
theorem dL_law_1240 : decode cL_law 1240 = .ok (.ifCond .eq 5, 3) := fo_dd DL_law_10 37 rfl
theorem dL_law_1243 : decode cL_law 1243 = .ok (.iconst 0, 1) := fo_dd DL_law_10 38 rfl
theorem dL_law_1244 : decode cL_law 1244 = .ok (.ireturn, 1) := fo_dd DL_law_10 39 rfl
theorem dL_law_1245 : decode cL_law 1245 = .ok (.goto 1438, 3) := fo_dd DL_law_10 40 rfl
theorem dL_law_1248 : decode cL_law 1248 = .ok (.aload_n 1, 1) := fo_dd DL_law_10 41 rfl
theorem dL_law_1249 : decode cL_law 1249 = .ok (.aload_n 0, 1) := fo_dd DL_law_10 42 rfl
theorem dL_law_1250 : decode cL_law 1250 = .ok (.iload 5, 2) := fo_dd DL_law_10 43 rfl
theorem dL_law_1252 : decode cL_law 1252 = .ok (.iconst 1, 1) := fo_dd DL_law_10 44 rfl
theorem dL_law_1253 : decode cL_law 1253 = .ok (.iadd, 1) := fo_dd DL_law_10 45 rfl
theorem dL_law_1254 : decode cL_law 1254 = .ok (.iaload, 1) := fo_dd DL_law_10 46 rfl
theorem dL_law_1255 : decode cL_law 1255 = .ok (.aload_n 0, 1) := fo_dd DL_law_10 47 rfl
theorem dL_law_1256 : decode cL_law 1256 = .ok (.iload 5, 2) := fo_dd DL_law_10 48 rfl
theorem dL_law_1258 : decode cL_law 1258 = .ok (.iconst 2, 1) := fo_dd DL_law_10 49 rfl
theorem dL_law_1259 : decode cL_law 1259 = .ok (.iadd, 1) := fo_dd DL_law_10 50 rfl
theorem dL_law_1260 : decode cL_law 1260 = .ok (.iaload, 1) := fo_dd DL_law_10 51 rfl
theorem dL_law_1261 : decode cL_law 1261 = .ok (.aload_n 0, 1) := fo_dd DL_law_10 52 rfl
theorem dL_law_1262 : decode cL_law 1262 = .ok (.iload 5, 2) := fo_dd DL_law_10 53 rfl
theorem dL_law_1264 : decode cL_law 1264 = .ok (.iconst 3, 1) := fo_dd DL_law_10 54 rfl
theorem dL_law_1265 : decode cL_law 1265 = .ok (.iadd, 1) := fo_dd DL_law_10 55 rfl
theorem dL_law_1266 : decode cL_law 1266 = .ok (.iaload, 1) := fo_dd DL_law_10 56 rfl
theorem dL_law_1267 : decode cL_law 1267 = .ok (.aload_n 3, 1) := fo_dd DL_law_10 57 rfl
theorem dL_law_1268 : decode cL_law 1268 = .ok (.invokestatic 202, 3) := fo_dd DL_law_10 58 rfl
theorem dL_law_1271 : decode cL_law 1271 = .ok (.istore 6, 2) := fo_dd DL_law_10 59 rfl
theorem dL_law_1273 : decode cL_law 1273 = .ok (.aload_n 2, 1) := fo_dd DL_law_10 60 rfl
theorem dL_law_1274 : decode cL_law 1274 = .ok (.aload_n 0, 1) := fo_dd DL_law_10 61 rfl
theorem dL_law_1275 : decode cL_law 1275 = .ok (.iload 5, 2) := fo_dd DL_law_10 62 rfl
theorem dL_law_1277 : decode cL_law 1277 = .ok (.iconst 1, 1) := fo_dd DL_law_10 63 rfl
theorem DL_law_11 : fo_dl cL_law [(1278, .iadd, 1), (1279, .iaload, 1), (1280, .aload_n 0, 1), (1281, .iload 5, 2), (1283, .iconst 2, 1), (1284, .iadd, 1), (1285, .iaload, 1), (1286, .aload_n 0, 1), (1287, .iload 5, 2), (1289, .iconst 3, 1), (1290, .iadd, 1), (1291, .iaload, 1), (1292, .invokevirtual 205, 3), (1295, .istore 7, 2), (1297, .aload_n 2, 1), (1298, .invokevirtual 154, 3), (1301, .iload 6, 2), (1303, .if_icmp .eq 5, 3), (1306, .iconst 0, 1), (1307, .ireturn, 1), (1308, .iload 6, 2), (1310, .ifCond .ne 15, 3), (1313, .aload_n 3, 1), (1314, .iconst 0, 1), (1315, .laload, 1), (1316, .iload 7, 2), (1318, .i2l, 1), (1319, .lcmp, 1), (1320, .ifCond .eq 5, 3), (1323, .iconst 0, 1), (1324, .ireturn, 1), (1325, .goto 1358, 3), (1328, .aload_n 1, 1), (1329, .invokevirtual 206, 3), (1332, .aload_n 2, 1), (1333, .invokevirtual 209, 3), (1336, .if_icmp .eq 1347, 3), (1339, .iconst 0, 1), (1340, .ireturn, 1), (1341, .aload_n 1, 1), (1342, .invokevirtual 210, 3), (1345, .aload_n 2, 1), (1346, .invokevirtual 213, 3), (1349, .if_icmp .eq 1334, 3), (1352, .iconst 0, 1), (1353, .ireturn, 1), (1354, .aload_n 1, 1), (1355, .aload_n 0, 1), (1356, .iload 5, 2), (1358, .iconst 1, 1), (1359, .iadd, 1), (1360, .iaload, 1), (1361, .aload_n 3, 1), (1362, .invokestatic 214, 3), (1365, .istore 6, 2), (1367, .aload_n 2, 1), (1368, .aload_n 0, 1), (1369, .iload 5, 2), (1371, .iconst 1, 1), (1372, .iadd, 1), (1373, .iaload, 1), (1374, .invokevirtual 216, 3), (1377, .istore 7, 2), (1379, .aload_n 2, 1)] := by decide +kernel
theorem dL_law_1278 : decode cL_law 1278 = .ok (.iadd, 1) := fo_dd DL_law_11 0 rfl
theorem dL_law_1279 : decode cL_law 1279 = .ok (.iaload, 1) := fo_dd DL_law_11 1 rfl
theorem dL_law_1280 : decode cL_law 1280 = .ok (.aload_n 0, 1) := fo_dd DL_law_11 2 rfl
theorem dL_law_1281 : decode cL_law 1281 = .ok (.iload 5, 2) := fo_dd DL_law_11 3 rfl
theorem dL_law_1283 : decode cL_law 1283 = .ok (.iconst 2, 1) := fo_dd DL_law_11 4 rfl
theorem dL_law_1284 : decode cL_law 1284 = .ok (.iadd, 1) := fo_dd DL_law_11 5 rfl
theorem dL_law_1285 : decode cL_law 1285 = .ok (.iaload, 1) := fo_dd DL_law_11 6 rfl
theorem dL_law_1286 : decode cL_law 1286 = .ok (.aload_n 0, 1) := fo_dd DL_law_11 7 rfl
theorem dL_law_1287 : decode cL_law 1287 = .ok (.iload 5, 2) := fo_dd DL_law_11 8 rfl
theorem dL_law_1289 : decode cL_law 1289 = .ok (.iconst 3, 1) := fo_dd DL_law_11 9 rfl
theorem dL_law_1290 : decode cL_law 1290 = .ok (.iadd, 1) := fo_dd DL_law_11 10 rfl
theorem dL_law_1291 : decode cL_law 1291 = .ok (.iaload, 1) := fo_dd DL_law_11 11 rfl
theorem dL_law_1292 : decode cL_law 1292 = .ok (.invokevirtual 205, 3) := fo_dd DL_law_11 12 rfl
theorem dL_law_1295 : decode cL_law 1295 = .ok (.istore 7, 2) := fo_dd DL_law_11 13 rfl
theorem dL_law_1297 : decode cL_law 1297 = .ok (.aload_n 2, 1) := fo_dd DL_law_11 14 rfl
theorem dL_law_1298 : decode cL_law 1298 = .ok (.invokevirtual 154, 3) := fo_dd DL_law_11 15 rfl
theorem dL_law_1301 : decode cL_law 1301 = .ok (.iload 6, 2) := fo_dd DL_law_11 16 rfl
theorem dL_law_1303 : decode cL_law 1303 = .ok (.if_icmp .eq 5, 3) := fo_dd DL_law_11 17 rfl
theorem dL_law_1306 : decode cL_law 1306 = .ok (.iconst 0, 1) := fo_dd DL_law_11 18 rfl
theorem dL_law_1307 : decode cL_law 1307 = .ok (.ireturn, 1) := fo_dd DL_law_11 19 rfl
theorem dL_law_1308 : decode cL_law 1308 = .ok (.iload 6, 2) := fo_dd DL_law_11 20 rfl
theorem dL_law_1310 : decode cL_law 1310 = .ok (.ifCond .ne 15, 3) := fo_dd DL_law_11 21 rfl
theorem dL_law_1313 : decode cL_law 1313 = .ok (.aload_n 3, 1) := fo_dd DL_law_11 22 rfl
theorem dL_law_1314 : decode cL_law 1314 = .ok (.iconst 0, 1) := fo_dd DL_law_11 23 rfl
theorem dL_law_1315 : decode cL_law 1315 = .ok (.laload, 1) := fo_dd DL_law_11 24 rfl
theorem dL_law_1316 : decode cL_law 1316 = .ok (.iload 7, 2) := fo_dd DL_law_11 25 rfl
theorem dL_law_1318 : decode cL_law 1318 = .ok (.i2l, 1) := fo_dd DL_law_11 26 rfl
theorem dL_law_1319 : decode cL_law 1319 = .ok (.lcmp, 1) := fo_dd DL_law_11 27 rfl
theorem dL_law_1320 : decode cL_law 1320 = .ok (.ifCond .eq 5, 3) := fo_dd DL_law_11 28 rfl
theorem dL_law_1323 : decode cL_law 1323 = .ok (.iconst 0, 1) := fo_dd DL_law_11 29 rfl
theorem dL_law_1324 : decode cL_law 1324 = .ok (.ireturn, 1) := fo_dd DL_law_11 30 rfl
theorem dL_law_1325 : decode cL_law 1325 = .ok (.goto 1358, 3) := fo_dd DL_law_11 31 rfl
theorem dL_law_1328 : decode cL_law 1328 = .ok (.aload_n 1, 1) := fo_dd DL_law_11 32 rfl
theorem dL_law_1329 : decode cL_law 1329 = .ok (.invokevirtual 206, 3) := fo_dd DL_law_11 33 rfl
theorem dL_law_1332 : decode cL_law 1332 = .ok (.aload_n 2, 1) := fo_dd DL_law_11 34 rfl
theorem dL_law_1333 : decode cL_law 1333 = .ok (.invokevirtual 209, 3) := fo_dd DL_law_11 35 rfl
theorem dL_law_1336 : decode cL_law 1336 = .ok (.if_icmp .eq 1347, 3) := fo_dd DL_law_11 36 rfl
theorem dL_law_1339 : decode cL_law 1339 = .ok (.iconst 0, 1) := fo_dd DL_law_11 37 rfl
theorem dL_law_1340 : decode cL_law 1340 = .ok (.ireturn, 1) := fo_dd DL_law_11 38 rfl
theorem dL_law_1341 : decode cL_law 1341 = .ok (.aload_n 1, 1) := fo_dd DL_law_11 39 rfl
theorem dL_law_1342 : decode cL_law 1342 = .ok (.invokevirtual 210, 3) := fo_dd DL_law_11 40 rfl
theorem dL_law_1345 : decode cL_law 1345 = .ok (.aload_n 2, 1) := fo_dd DL_law_11 41 rfl
theorem dL_law_1346 : decode cL_law 1346 = .ok (.invokevirtual 213, 3) := fo_dd DL_law_11 42 rfl
theorem dL_law_1349 : decode cL_law 1349 = .ok (.if_icmp .eq 1334, 3) := fo_dd DL_law_11 43 rfl
theorem dL_law_1352 : decode cL_law 1352 = .ok (.iconst 0, 1) := fo_dd DL_law_11 44 rfl
theorem dL_law_1353 : decode cL_law 1353 = .ok (.ireturn, 1) := fo_dd DL_law_11 45 rfl
theorem dL_law_1354 : decode cL_law 1354 = .ok (.aload_n 1, 1) := fo_dd DL_law_11 46 rfl
theorem dL_law_1355 : decode cL_law 1355 = .ok (.aload_n 0, 1) := fo_dd DL_law_11 47 rfl
theorem dL_law_1356 : decode cL_law 1356 = .ok (.iload 5, 2) := fo_dd DL_law_11 48 rfl
theorem dL_law_1358 : decode cL_law 1358 = .ok (.iconst 1, 1) := fo_dd DL_law_11 49 rfl
theorem dL_law_1359 : decode cL_law 1359 = .ok (.iadd, 1) := fo_dd DL_law_11 50 rfl
theorem dL_law_1360 : decode cL_law 1360 = .ok (.iaload, 1) := fo_dd DL_law_11 51 rfl
theorem dL_law_1361 : decode cL_law 1361 = .ok (.aload_n 3, 1) := fo_dd DL_law_11 52 rfl
theorem dL_law_1362 : decode cL_law 1362 = .ok (.invokestatic 214, 3) := fo_dd DL_law_11 53 rfl
theorem dL_law_1365 : decode cL_law 1365 = .ok (.istore 6, 2) := fo_dd DL_law_11 54 rfl
theorem dL_law_1367 : decode cL_law 1367 = .ok (.aload_n 2, 1) := fo_dd DL_law_11 55 rfl
theorem dL_law_1368 : decode cL_law 1368 = .ok (.aload_n 0, 1) := fo_dd DL_law_11 56 rfl
theorem dL_law_1369 : decode cL_law 1369 = .ok (.iload 5, 2) := fo_dd DL_law_11 57 rfl
theorem dL_law_1371 : decode cL_law 1371 = .ok (.iconst 1, 1) := fo_dd DL_law_11 58 rfl
theorem dL_law_1372 : decode cL_law 1372 = .ok (.iadd, 1) := fo_dd DL_law_11 59 rfl
theorem dL_law_1373 : decode cL_law 1373 = .ok (.iaload, 1) := fo_dd DL_law_11 60 rfl
theorem dL_law_1374 : decode cL_law 1374 = .ok (.invokevirtual 216, 3) := fo_dd DL_law_11 61 rfl
theorem dL_law_1377 : decode cL_law 1377 = .ok (.istore 7, 2) := fo_dd DL_law_11 62 rfl
theorem dL_law_1379 : decode cL_law 1379 = .ok (.aload_n 2, 1) := fo_dd DL_law_11 63 rfl
theorem DL_law_12 : fo_dl cL_law [(1380, .invokevirtual 154, 3), (1383, .iload 6, 2), (1385, .if_icmp .eq 5, 3), (1388, .iconst 0, 1), (1389, .ireturn, 1), (1390, .iload 6, 2), (1392, .ifCond .ne 15, 3), (1395, .aload_n 3, 1), (1396, .iconst 0, 1), (1397, .laload, 1), (1398, .iload 7, 2), (1400, .i2l, 1), (1401, .lcmp, 1), (1402, .ifCond .eq 5, 3), (1405, .iconst 0, 1), (1406, .ireturn, 1), (1407, .goto 1276, 3), (1410, .aload_n 1, 1), (1411, .aload_n 0, 1), (1412, .iload 5, 2), (1414, .iconst 1, 1), (1415, .iadd, 1), (1416, .iaload, 1), (1417, .aload_n 3, 1), (1418, .invokestatic 217, 3), (1421, .istore 6, 2), (1423, .aload_n 2, 1), (1424, .aload_n 0, 1), (1425, .iload 5, 2), (1427, .iconst 1, 1), (1428, .iadd, 1), (1429, .iaload, 1), (1430, .invokevirtual 219, 3), (1433, .istore 7, 2), (1435, .aload_n 2, 1), (1436, .invokevirtual 154, 3), (1439, .iload 6, 2), (1441, .if_icmp .eq 5, 3), (1444, .iconst 0, 1), (1445, .ireturn, 1), (1446, .iload 6, 2), (1448, .ifCond .ne 15, 3), (1451, .aload_n 3, 1), (1452, .iconst 0, 1), (1453, .laload, 1), (1454, .iload 7, 2), (1456, .i2l, 1), (1457, .lcmp, 1), (1458, .ifCond .eq 5, 3), (1461, .iconst 0, 1), (1462, .ireturn, 1), (1463, .goto 1220, 3), (1466, .aload_n 1, 1), (1467, .aload_n 0, 1), (1468, .iload 5, 2), (1470, .iconst 1, 1), (1471, .iadd, 1), (1472, .iaload, 1), (1473, .aload_n 0, 1), (1474, .iload 5, 2), (1476, .iconst 2, 1), (1477, .iadd, 1), (1478, .iaload, 1), (1479, .aload_n 3, 1)] := by decide +kernel
theorem dL_law_1380 : decode cL_law 1380 = .ok (.invokevirtual 154, 3) := fo_dd DL_law_12 0 rfl
theorem dL_law_1383 : decode cL_law 1383 = .ok (.iload 6, 2) := fo_dd DL_law_12 1 rfl
theorem dL_law_1385 : decode cL_law 1385 = .ok (.if_icmp .eq 5, 3) := fo_dd DL_law_12 2 rfl
theorem dL_law_1388 : decode cL_law 1388 = .ok (.iconst 0, 1) := fo_dd DL_law_12 3 rfl
theorem dL_law_1389 : decode cL_law 1389 = .ok (.ireturn, 1) := fo_dd DL_law_12 4 rfl
theorem dL_law_1390 : decode cL_law 1390 = .ok (.iload 6, 2) := fo_dd DL_law_12 5 rfl
theorem dL_law_1392 : decode cL_law 1392 = .ok (.ifCond .ne 15, 3) := fo_dd DL_law_12 6 rfl
theorem dL_law_1395 : decode cL_law 1395 = .ok (.aload_n 3, 1) := fo_dd DL_law_12 7 rfl
theorem dL_law_1396 : decode cL_law 1396 = .ok (.iconst 0, 1) := fo_dd DL_law_12 8 rfl
theorem dL_law_1397 : decode cL_law 1397 = .ok (.laload, 1) := fo_dd DL_law_12 9 rfl
theorem dL_law_1398 : decode cL_law 1398 = .ok (.iload 7, 2) := fo_dd DL_law_12 10 rfl
theorem dL_law_1400 : decode cL_law 1400 = .ok (.i2l, 1) := fo_dd DL_law_12 11 rfl
theorem dL_law_1401 : decode cL_law 1401 = .ok (.lcmp, 1) := fo_dd DL_law_12 12 rfl
theorem dL_law_1402 : decode cL_law 1402 = .ok (.ifCond .eq 5, 3) := fo_dd DL_law_12 13 rfl
theorem dL_law_1405 : decode cL_law 1405 = .ok (.iconst 0, 1) := fo_dd DL_law_12 14 rfl
theorem dL_law_1406 : decode cL_law 1406 = .ok (.ireturn, 1) := fo_dd DL_law_12 15 rfl
theorem dL_law_1407 : decode cL_law 1407 = .ok (.goto 1276, 3) := fo_dd DL_law_12 16 rfl
theorem dL_law_1410 : decode cL_law 1410 = .ok (.aload_n 1, 1) := fo_dd DL_law_12 17 rfl
theorem dL_law_1411 : decode cL_law 1411 = .ok (.aload_n 0, 1) := fo_dd DL_law_12 18 rfl
theorem dL_law_1412 : decode cL_law 1412 = .ok (.iload 5, 2) := fo_dd DL_law_12 19 rfl
theorem dL_law_1414 : decode cL_law 1414 = .ok (.iconst 1, 1) := fo_dd DL_law_12 20 rfl
theorem dL_law_1415 : decode cL_law 1415 = .ok (.iadd, 1) := fo_dd DL_law_12 21 rfl
theorem dL_law_1416 : decode cL_law 1416 = .ok (.iaload, 1) := fo_dd DL_law_12 22 rfl
theorem dL_law_1417 : decode cL_law 1417 = .ok (.aload_n 3, 1) := fo_dd DL_law_12 23 rfl
theorem dL_law_1418 : decode cL_law 1418 = .ok (.invokestatic 217, 3) := fo_dd DL_law_12 24 rfl
theorem dL_law_1421 : decode cL_law 1421 = .ok (.istore 6, 2) := fo_dd DL_law_12 25 rfl
theorem dL_law_1423 : decode cL_law 1423 = .ok (.aload_n 2, 1) := fo_dd DL_law_12 26 rfl
theorem dL_law_1424 : decode cL_law 1424 = .ok (.aload_n 0, 1) := fo_dd DL_law_12 27 rfl
theorem dL_law_1425 : decode cL_law 1425 = .ok (.iload 5, 2) := fo_dd DL_law_12 28 rfl
theorem dL_law_1427 : decode cL_law 1427 = .ok (.iconst 1, 1) := fo_dd DL_law_12 29 rfl
theorem dL_law_1428 : decode cL_law 1428 = .ok (.iadd, 1) := fo_dd DL_law_12 30 rfl
theorem dL_law_1429 : decode cL_law 1429 = .ok (.iaload, 1) := fo_dd DL_law_12 31 rfl
theorem dL_law_1430 : decode cL_law 1430 = .ok (.invokevirtual 219, 3) := fo_dd DL_law_12 32 rfl
theorem dL_law_1433 : decode cL_law 1433 = .ok (.istore 7, 2) := fo_dd DL_law_12 33 rfl
theorem dL_law_1435 : decode cL_law 1435 = .ok (.aload_n 2, 1) := fo_dd DL_law_12 34 rfl
theorem dL_law_1436 : decode cL_law 1436 = .ok (.invokevirtual 154, 3) := fo_dd DL_law_12 35 rfl
theorem dL_law_1439 : decode cL_law 1439 = .ok (.iload 6, 2) := fo_dd DL_law_12 36 rfl
theorem dL_law_1441 : decode cL_law 1441 = .ok (.if_icmp .eq 5, 3) := fo_dd DL_law_12 37 rfl
theorem dL_law_1444 : decode cL_law 1444 = .ok (.iconst 0, 1) := fo_dd DL_law_12 38 rfl
theorem dL_law_1445 : decode cL_law 1445 = .ok (.ireturn, 1) := fo_dd DL_law_12 39 rfl
theorem dL_law_1446 : decode cL_law 1446 = .ok (.iload 6, 2) := fo_dd DL_law_12 40 rfl
theorem dL_law_1448 : decode cL_law 1448 = .ok (.ifCond .ne 15, 3) := fo_dd DL_law_12 41 rfl
theorem dL_law_1451 : decode cL_law 1451 = .ok (.aload_n 3, 1) := fo_dd DL_law_12 42 rfl
theorem dL_law_1452 : decode cL_law 1452 = .ok (.iconst 0, 1) := fo_dd DL_law_12 43 rfl
theorem dL_law_1453 : decode cL_law 1453 = .ok (.laload, 1) := fo_dd DL_law_12 44 rfl
theorem dL_law_1454 : decode cL_law 1454 = .ok (.iload 7, 2) := fo_dd DL_law_12 45 rfl
theorem dL_law_1456 : decode cL_law 1456 = .ok (.i2l, 1) := fo_dd DL_law_12 46 rfl
theorem dL_law_1457 : decode cL_law 1457 = .ok (.lcmp, 1) := fo_dd DL_law_12 47 rfl
theorem dL_law_1458 : decode cL_law 1458 = .ok (.ifCond .eq 5, 3) := fo_dd DL_law_12 48 rfl
theorem dL_law_1461 : decode cL_law 1461 = .ok (.iconst 0, 1) := fo_dd DL_law_12 49 rfl
theorem dL_law_1462 : decode cL_law 1462 = .ok (.ireturn, 1) := fo_dd DL_law_12 50 rfl
theorem dL_law_1463 : decode cL_law 1463 = .ok (.goto 1220, 3) := fo_dd DL_law_12 51 rfl
theorem dL_law_1466 : decode cL_law 1466 = .ok (.aload_n 1, 1) := fo_dd DL_law_12 52 rfl
theorem dL_law_1467 : decode cL_law 1467 = .ok (.aload_n 0, 1) := fo_dd DL_law_12 53 rfl
theorem dL_law_1468 : decode cL_law 1468 = .ok (.iload 5, 2) := fo_dd DL_law_12 54 rfl
theorem dL_law_1470 : decode cL_law 1470 = .ok (.iconst 1, 1) := fo_dd DL_law_12 55 rfl
theorem dL_law_1471 : decode cL_law 1471 = .ok (.iadd, 1) := fo_dd DL_law_12 56 rfl
theorem dL_law_1472 : decode cL_law 1472 = .ok (.iaload, 1) := fo_dd DL_law_12 57 rfl
theorem dL_law_1473 : decode cL_law 1473 = .ok (.aload_n 0, 1) := fo_dd DL_law_12 58 rfl
theorem dL_law_1474 : decode cL_law 1474 = .ok (.iload 5, 2) := fo_dd DL_law_12 59 rfl
theorem dL_law_1476 : decode cL_law 1476 = .ok (.iconst 2, 1) := fo_dd DL_law_12 60 rfl
theorem dL_law_1477 : decode cL_law 1477 = .ok (.iadd, 1) := fo_dd DL_law_12 61 rfl
theorem dL_law_1478 : decode cL_law 1478 = .ok (.iaload, 1) := fo_dd DL_law_12 62 rfl
theorem dL_law_1479 : decode cL_law 1479 = .ok (.aload_n 3, 1) := fo_dd DL_law_12 63 rfl
theorem DL_law_13 : fo_dl cL_law [(1480, .invokestatic 220, 3), (1483, .istore 6, 2), (1485, .aload_n 2, 1), (1486, .aload_n 0, 1), (1487, .iload 5, 2), (1489, .iconst 1, 1), (1490, .iadd, 1), (1491, .iaload, 1), (1492, .aload_n 0, 1), (1493, .iload 5, 2), (1495, .iconst 2, 1), (1496, .iadd, 1), (1497, .iaload, 1), (1498, .invokevirtual 222, 3), (1501, .istore 7, 2), (1503, .aload_n 2, 1), (1504, .invokevirtual 154, 3), (1507, .iload 6, 2), (1509, .if_icmp .eq 5, 3), (1512, .iconst 0, 1), (1513, .ireturn, 1), (1514, .iload 6, 2), (1516, .ifCond .ne 22, 3), (1519, .aload_n 3, 1), (1520, .iconst 0, 1), (1521, .laload, 1), (1522, .iload 7, 2), (1524, .ifCond .eq 7, 3), (1527, .lconst 1, 1), (1528, .goto 4, 3), (1531, .lconst 0, 1), (1532, .lcmp, 1), (1533, .ifCond .eq 5, 3), (1536, .iconst 0, 1), (1537, .ireturn, 1), (1538, .goto 1145, 3), (1541, .aload_n 1, 1), (1542, .aload_n 0, 1), (1543, .iload 5, 2), (1545, .iconst 1, 1), (1546, .iadd, 1), (1547, .iaload, 1), (1548, .aload_n 0, 1), (1549, .iload 5, 2), (1551, .iconst 2, 1), (1552, .iadd, 1), (1553, .iaload, 1), (1554, .aload 4, 2), (1556, .invokestatic 223, 3), (1559, .istore 6, 2), (1561, .aload_n 2, 1), (1562, .aload_n 0, 1), (1563, .iload 5, 2), (1565, .iconst 1, 1), (1566, .iadd, 1), (1567, .iaload, 1), (1568, .aload_n 0, 1), (1569, .iload 5, 2), (1571, .iconst 2, 1), (1572, .iadd, 1), (1573, .iaload, 1), (1574, .invokevirtual 225, 3), (1577, .dstore 7, 2), (1579, .aload_n 2, 1)] := by decide +kernel
theorem dL_law_1480 : decode cL_law 1480 = .ok (.invokestatic 220, 3) := fo_dd DL_law_13 0 rfl
theorem dL_law_1483 : decode cL_law 1483 = .ok (.istore 6, 2) := fo_dd DL_law_13 1 rfl
theorem dL_law_1485 : decode cL_law 1485 = .ok (.aload_n 2, 1) := fo_dd DL_law_13 2 rfl
theorem dL_law_1486 : decode cL_law 1486 = .ok (.aload_n 0, 1) := fo_dd DL_law_13 3 rfl
theorem dL_law_1487 : decode cL_law 1487 = .ok (.iload 5, 2) := fo_dd DL_law_13 4 rfl
theorem dL_law_1489 : decode cL_law 1489 = .ok (.iconst 1, 1) := fo_dd DL_law_13 5 rfl
theorem dL_law_1490 : decode cL_law 1490 = .ok (.iadd, 1) := fo_dd DL_law_13 6 rfl
theorem dL_law_1491 : decode cL_law 1491 = .ok (.iaload, 1) := fo_dd DL_law_13 7 rfl
theorem dL_law_1492 : decode cL_law 1492 = .ok (.aload_n 0, 1) := fo_dd DL_law_13 8 rfl
theorem dL_law_1493 : decode cL_law 1493 = .ok (.iload 5, 2) := fo_dd DL_law_13 9 rfl
theorem dL_law_1495 : decode cL_law 1495 = .ok (.iconst 2, 1) := fo_dd DL_law_13 10 rfl
theorem dL_law_1496 : decode cL_law 1496 = .ok (.iadd, 1) := fo_dd DL_law_13 11 rfl
theorem dL_law_1497 : decode cL_law 1497 = .ok (.iaload, 1) := fo_dd DL_law_13 12 rfl
theorem dL_law_1498 : decode cL_law 1498 = .ok (.invokevirtual 222, 3) := fo_dd DL_law_13 13 rfl
theorem dL_law_1501 : decode cL_law 1501 = .ok (.istore 7, 2) := fo_dd DL_law_13 14 rfl
theorem dL_law_1503 : decode cL_law 1503 = .ok (.aload_n 2, 1) := fo_dd DL_law_13 15 rfl
theorem dL_law_1504 : decode cL_law 1504 = .ok (.invokevirtual 154, 3) := fo_dd DL_law_13 16 rfl
theorem dL_law_1507 : decode cL_law 1507 = .ok (.iload 6, 2) := fo_dd DL_law_13 17 rfl
theorem dL_law_1509 : decode cL_law 1509 = .ok (.if_icmp .eq 5, 3) := fo_dd DL_law_13 18 rfl
theorem dL_law_1512 : decode cL_law 1512 = .ok (.iconst 0, 1) := fo_dd DL_law_13 19 rfl
theorem dL_law_1513 : decode cL_law 1513 = .ok (.ireturn, 1) := fo_dd DL_law_13 20 rfl
theorem dL_law_1514 : decode cL_law 1514 = .ok (.iload 6, 2) := fo_dd DL_law_13 21 rfl
theorem dL_law_1516 : decode cL_law 1516 = .ok (.ifCond .ne 22, 3) := fo_dd DL_law_13 22 rfl
theorem dL_law_1519 : decode cL_law 1519 = .ok (.aload_n 3, 1) := fo_dd DL_law_13 23 rfl
theorem dL_law_1520 : decode cL_law 1520 = .ok (.iconst 0, 1) := fo_dd DL_law_13 24 rfl
theorem dL_law_1521 : decode cL_law 1521 = .ok (.laload, 1) := fo_dd DL_law_13 25 rfl
theorem dL_law_1522 : decode cL_law 1522 = .ok (.iload 7, 2) := fo_dd DL_law_13 26 rfl
theorem dL_law_1524 : decode cL_law 1524 = .ok (.ifCond .eq 7, 3) := fo_dd DL_law_13 27 rfl
theorem dL_law_1527 : decode cL_law 1527 = .ok (.lconst 1, 1) := fo_dd DL_law_13 28 rfl
theorem dL_law_1528 : decode cL_law 1528 = .ok (.goto 4, 3) := fo_dd DL_law_13 29 rfl
theorem dL_law_1531 : decode cL_law 1531 = .ok (.lconst 0, 1) := fo_dd DL_law_13 30 rfl
theorem dL_law_1532 : decode cL_law 1532 = .ok (.lcmp, 1) := fo_dd DL_law_13 31 rfl
theorem dL_law_1533 : decode cL_law 1533 = .ok (.ifCond .eq 5, 3) := fo_dd DL_law_13 32 rfl
theorem dL_law_1536 : decode cL_law 1536 = .ok (.iconst 0, 1) := fo_dd DL_law_13 33 rfl
theorem dL_law_1537 : decode cL_law 1537 = .ok (.ireturn, 1) := fo_dd DL_law_13 34 rfl
theorem dL_law_1538 : decode cL_law 1538 = .ok (.goto 1145, 3) := fo_dd DL_law_13 35 rfl
theorem dL_law_1541 : decode cL_law 1541 = .ok (.aload_n 1, 1) := fo_dd DL_law_13 36 rfl
theorem dL_law_1542 : decode cL_law 1542 = .ok (.aload_n 0, 1) := fo_dd DL_law_13 37 rfl
theorem dL_law_1543 : decode cL_law 1543 = .ok (.iload 5, 2) := fo_dd DL_law_13 38 rfl
theorem dL_law_1545 : decode cL_law 1545 = .ok (.iconst 1, 1) := fo_dd DL_law_13 39 rfl
theorem dL_law_1546 : decode cL_law 1546 = .ok (.iadd, 1) := fo_dd DL_law_13 40 rfl
theorem dL_law_1547 : decode cL_law 1547 = .ok (.iaload, 1) := fo_dd DL_law_13 41 rfl
theorem dL_law_1548 : decode cL_law 1548 = .ok (.aload_n 0, 1) := fo_dd DL_law_13 42 rfl
theorem dL_law_1549 : decode cL_law 1549 = .ok (.iload 5, 2) := fo_dd DL_law_13 43 rfl
theorem dL_law_1551 : decode cL_law 1551 = .ok (.iconst 2, 1) := fo_dd DL_law_13 44 rfl
theorem dL_law_1552 : decode cL_law 1552 = .ok (.iadd, 1) := fo_dd DL_law_13 45 rfl
theorem dL_law_1553 : decode cL_law 1553 = .ok (.iaload, 1) := fo_dd DL_law_13 46 rfl
theorem dL_law_1554 : decode cL_law 1554 = .ok (.aload 4, 2) := fo_dd DL_law_13 47 rfl
theorem dL_law_1556 : decode cL_law 1556 = .ok (.invokestatic 223, 3) := fo_dd DL_law_13 48 rfl
theorem dL_law_1559 : decode cL_law 1559 = .ok (.istore 6, 2) := fo_dd DL_law_13 49 rfl
theorem dL_law_1561 : decode cL_law 1561 = .ok (.aload_n 2, 1) := fo_dd DL_law_13 50 rfl
theorem dL_law_1562 : decode cL_law 1562 = .ok (.aload_n 0, 1) := fo_dd DL_law_13 51 rfl
theorem dL_law_1563 : decode cL_law 1563 = .ok (.iload 5, 2) := fo_dd DL_law_13 52 rfl
theorem dL_law_1565 : decode cL_law 1565 = .ok (.iconst 1, 1) := fo_dd DL_law_13 53 rfl
theorem dL_law_1566 : decode cL_law 1566 = .ok (.iadd, 1) := fo_dd DL_law_13 54 rfl
theorem dL_law_1567 : decode cL_law 1567 = .ok (.iaload, 1) := fo_dd DL_law_13 55 rfl
theorem dL_law_1568 : decode cL_law 1568 = .ok (.aload_n 0, 1) := fo_dd DL_law_13 56 rfl
theorem dL_law_1569 : decode cL_law 1569 = .ok (.iload 5, 2) := fo_dd DL_law_13 57 rfl
theorem dL_law_1571 : decode cL_law 1571 = .ok (.iconst 2, 1) := fo_dd DL_law_13 58 rfl
theorem dL_law_1572 : decode cL_law 1572 = .ok (.iadd, 1) := fo_dd DL_law_13 59 rfl
theorem dL_law_1573 : decode cL_law 1573 = .ok (.iaload, 1) := fo_dd DL_law_13 60 rfl
theorem dL_law_1574 : decode cL_law 1574 = .ok (.invokevirtual 225, 3) := fo_dd DL_law_13 61 rfl
theorem dL_law_1577 : decode cL_law 1577 = .ok (.dstore 7, 2) := fo_dd DL_law_13 62 rfl
theorem dL_law_1579 : decode cL_law 1579 = .ok (.aload_n 2, 1) := fo_dd DL_law_13 63 rfl
theorem DL_law_14 : fo_dl cL_law [(1580, .invokevirtual 154, 3), (1583, .iload 6, 2), (1585, .if_icmp .eq 5, 3), (1588, .iconst 0, 1), (1589, .ireturn, 1), (1590, .iload 6, 2), (1592, .ifCond .ne 35, 3), (1595, .aload 4, 2), (1597, .iconst 0, 1), (1598, .daload, 1), (1599, .dload 7, 2), (1601, .dcmp .l, 1), (1602, .ifCond .eq 25, 3), (1605, .aload 4, 2), (1607, .iconst 0, 1), (1608, .daload, 1), (1609, .aload 4, 2), (1611, .iconst 0, 1), (1612, .daload, 1), (1613, .dcmp .l, 1), (1614, .ifCond .eq 11, 3), (1617, .dload 7, 2), (1619, .dload 7, 2), (1621, .dcmp .l, 1), (1622, .ifCond .ne 5, 3), (1625, .iconst 0, 1), (1626, .ireturn, 1), (1627, .goto 1056, 3), (1630, .aload_n 1, 1), (1631, .aload_n 0, 1), (1632, .iload 5, 2), (1634, .iconst 1, 1), (1635, .iadd, 1), (1636, .iaload, 1), (1637, .aload_n 0, 1), (1638, .iload 5, 2), (1640, .iconst 2, 1), (1641, .iadd, 1), (1642, .iaload, 1), (1643, .aload_n 3, 1), (1644, .invokestatic 226, 3), (1647, .istore 6, 2), (1649, .aload_n 2, 1), (1650, .aload_n 0, 1), (1651, .iload 5, 2), (1653, .iconst 1, 1), (1654, .iadd, 1), (1655, .iaload, 1), (1656, .aload_n 0, 1), (1657, .iload 5, 2), (1659, .iconst 2, 1), (1660, .iadd, 1), (1661, .iaload, 1), (1662, .invokevirtual 228, 3), (1665, .lstore 7, 2), (1667, .aload_n 2, 1), (1668, .invokevirtual 154, 3), (1671, .iload 6, 2), (1673, .if_icmp .eq 5, 3), (1676, .iconst 0, 1), (1677, .ireturn, 1), (1678, .iload 6, 2), (1680, .ifCond .ne 14, 3), (1683, .aload_n 3, 1)] := by decide +kernel
theorem dL_law_1580 : decode cL_law 1580 = .ok (.invokevirtual 154, 3) := fo_dd DL_law_14 0 rfl
theorem dL_law_1583 : decode cL_law 1583 = .ok (.iload 6, 2) := fo_dd DL_law_14 1 rfl
theorem dL_law_1585 : decode cL_law 1585 = .ok (.if_icmp .eq 5, 3) := fo_dd DL_law_14 2 rfl
theorem dL_law_1588 : decode cL_law 1588 = .ok (.iconst 0, 1) := fo_dd DL_law_14 3 rfl
theorem dL_law_1589 : decode cL_law 1589 = .ok (.ireturn, 1) := fo_dd DL_law_14 4 rfl
theorem dL_law_1590 : decode cL_law 1590 = .ok (.iload 6, 2) := fo_dd DL_law_14 5 rfl
theorem dL_law_1592 : decode cL_law 1592 = .ok (.ifCond .ne 35, 3) := fo_dd DL_law_14 6 rfl
theorem dL_law_1595 : decode cL_law 1595 = .ok (.aload 4, 2) := fo_dd DL_law_14 7 rfl
theorem dL_law_1597 : decode cL_law 1597 = .ok (.iconst 0, 1) := fo_dd DL_law_14 8 rfl
theorem dL_law_1598 : decode cL_law 1598 = .ok (.daload, 1) := fo_dd DL_law_14 9 rfl
theorem dL_law_1599 : decode cL_law 1599 = .ok (.dload 7, 2) := fo_dd DL_law_14 10 rfl
theorem dL_law_1601 : decode cL_law 1601 = .ok (.dcmp .l, 1) := fo_dd DL_law_14 11 rfl
theorem dL_law_1602 : decode cL_law 1602 = .ok (.ifCond .eq 25, 3) := fo_dd DL_law_14 12 rfl
theorem dL_law_1605 : decode cL_law 1605 = .ok (.aload 4, 2) := fo_dd DL_law_14 13 rfl
theorem dL_law_1607 : decode cL_law 1607 = .ok (.iconst 0, 1) := fo_dd DL_law_14 14 rfl
theorem dL_law_1608 : decode cL_law 1608 = .ok (.daload, 1) := fo_dd DL_law_14 15 rfl
theorem dL_law_1609 : decode cL_law 1609 = .ok (.aload 4, 2) := fo_dd DL_law_14 16 rfl
theorem dL_law_1611 : decode cL_law 1611 = .ok (.iconst 0, 1) := fo_dd DL_law_14 17 rfl
theorem dL_law_1612 : decode cL_law 1612 = .ok (.daload, 1) := fo_dd DL_law_14 18 rfl
theorem dL_law_1613 : decode cL_law 1613 = .ok (.dcmp .l, 1) := fo_dd DL_law_14 19 rfl
theorem dL_law_1614 : decode cL_law 1614 = .ok (.ifCond .eq 11, 3) := fo_dd DL_law_14 20 rfl
theorem dL_law_1617 : decode cL_law 1617 = .ok (.dload 7, 2) := fo_dd DL_law_14 21 rfl
theorem dL_law_1619 : decode cL_law 1619 = .ok (.dload 7, 2) := fo_dd DL_law_14 22 rfl
theorem dL_law_1621 : decode cL_law 1621 = .ok (.dcmp .l, 1) := fo_dd DL_law_14 23 rfl
theorem dL_law_1622 : decode cL_law 1622 = .ok (.ifCond .ne 5, 3) := fo_dd DL_law_14 24 rfl
theorem dL_law_1625 : decode cL_law 1625 = .ok (.iconst 0, 1) := fo_dd DL_law_14 25 rfl
theorem dL_law_1626 : decode cL_law 1626 = .ok (.ireturn, 1) := fo_dd DL_law_14 26 rfl
theorem dL_law_1627 : decode cL_law 1627 = .ok (.goto 1056, 3) := fo_dd DL_law_14 27 rfl
theorem dL_law_1630 : decode cL_law 1630 = .ok (.aload_n 1, 1) := fo_dd DL_law_14 28 rfl
theorem dL_law_1631 : decode cL_law 1631 = .ok (.aload_n 0, 1) := fo_dd DL_law_14 29 rfl
theorem dL_law_1632 : decode cL_law 1632 = .ok (.iload 5, 2) := fo_dd DL_law_14 30 rfl
theorem dL_law_1634 : decode cL_law 1634 = .ok (.iconst 1, 1) := fo_dd DL_law_14 31 rfl
theorem dL_law_1635 : decode cL_law 1635 = .ok (.iadd, 1) := fo_dd DL_law_14 32 rfl
theorem dL_law_1636 : decode cL_law 1636 = .ok (.iaload, 1) := fo_dd DL_law_14 33 rfl
theorem dL_law_1637 : decode cL_law 1637 = .ok (.aload_n 0, 1) := fo_dd DL_law_14 34 rfl
theorem dL_law_1638 : decode cL_law 1638 = .ok (.iload 5, 2) := fo_dd DL_law_14 35 rfl
theorem dL_law_1640 : decode cL_law 1640 = .ok (.iconst 2, 1) := fo_dd DL_law_14 36 rfl
theorem dL_law_1641 : decode cL_law 1641 = .ok (.iadd, 1) := fo_dd DL_law_14 37 rfl
theorem dL_law_1642 : decode cL_law 1642 = .ok (.iaload, 1) := fo_dd DL_law_14 38 rfl
theorem dL_law_1643 : decode cL_law 1643 = .ok (.aload_n 3, 1) := fo_dd DL_law_14 39 rfl
theorem dL_law_1644 : decode cL_law 1644 = .ok (.invokestatic 226, 3) := fo_dd DL_law_14 40 rfl
theorem dL_law_1647 : decode cL_law 1647 = .ok (.istore 6, 2) := fo_dd DL_law_14 41 rfl
theorem dL_law_1649 : decode cL_law 1649 = .ok (.aload_n 2, 1) := fo_dd DL_law_14 42 rfl
theorem dL_law_1650 : decode cL_law 1650 = .ok (.aload_n 0, 1) := fo_dd DL_law_14 43 rfl
theorem dL_law_1651 : decode cL_law 1651 = .ok (.iload 5, 2) := fo_dd DL_law_14 44 rfl
theorem dL_law_1653 : decode cL_law 1653 = .ok (.iconst 1, 1) := fo_dd DL_law_14 45 rfl
theorem dL_law_1654 : decode cL_law 1654 = .ok (.iadd, 1) := fo_dd DL_law_14 46 rfl
theorem dL_law_1655 : decode cL_law 1655 = .ok (.iaload, 1) := fo_dd DL_law_14 47 rfl
theorem dL_law_1656 : decode cL_law 1656 = .ok (.aload_n 0, 1) := fo_dd DL_law_14 48 rfl
theorem dL_law_1657 : decode cL_law 1657 = .ok (.iload 5, 2) := fo_dd DL_law_14 49 rfl
theorem dL_law_1659 : decode cL_law 1659 = .ok (.iconst 2, 1) := fo_dd DL_law_14 50 rfl
theorem dL_law_1660 : decode cL_law 1660 = .ok (.iadd, 1) := fo_dd DL_law_14 51 rfl
theorem dL_law_1661 : decode cL_law 1661 = .ok (.iaload, 1) := fo_dd DL_law_14 52 rfl
theorem dL_law_1662 : decode cL_law 1662 = .ok (.invokevirtual 228, 3) := fo_dd DL_law_14 53 rfl
theorem dL_law_1665 : decode cL_law 1665 = .ok (.lstore 7, 2) := fo_dd DL_law_14 54 rfl
theorem dL_law_1667 : decode cL_law 1667 = .ok (.aload_n 2, 1) := fo_dd DL_law_14 55 rfl
theorem dL_law_1668 : decode cL_law 1668 = .ok (.invokevirtual 154, 3) := fo_dd DL_law_14 56 rfl
theorem dL_law_1671 : decode cL_law 1671 = .ok (.iload 6, 2) := fo_dd DL_law_14 57 rfl
theorem dL_law_1673 : decode cL_law 1673 = .ok (.if_icmp .eq 5, 3) := fo_dd DL_law_14 58 rfl
theorem dL_law_1676 : decode cL_law 1676 = .ok (.iconst 0, 1) := fo_dd DL_law_14 59 rfl
theorem dL_law_1677 : decode cL_law 1677 = .ok (.ireturn, 1) := fo_dd DL_law_14 60 rfl
theorem dL_law_1678 : decode cL_law 1678 = .ok (.iload 6, 2) := fo_dd DL_law_14 61 rfl
theorem dL_law_1680 : decode cL_law 1680 = .ok (.ifCond .ne 14, 3) := fo_dd DL_law_14 62 rfl
theorem dL_law_1683 : decode cL_law 1683 = .ok (.aload_n 3, 1) := fo_dd DL_law_14 63 rfl
theorem DL_law_15 : fo_dl cL_law [(1684, .iconst 0, 1), (1685, .laload, 1), (1686, .lload 7, 2), (1688, .lcmp, 1), (1689, .ifCond .eq 5, 3), (1692, .iconst 0, 1), (1693, .ireturn, 1), (1694, .goto 989, 3), (1697, .aload_n 1, 1), (1698, .aload_n 0, 1), (1699, .iload 5, 2), (1701, .iconst 1, 1), (1702, .iadd, 1), (1703, .iaload, 1), (1704, .aload_n 0, 1), (1705, .iload 5, 2), (1707, .iconst 2, 1), (1708, .iadd, 1), (1709, .iaload, 1), (1710, .aload_n 3, 1), (1711, .invokestatic 229, 3), (1714, .istore 6, 2), (1716, .aload_n 2, 1), (1717, .aload_n 0, 1), (1718, .iload 5, 2), (1720, .iconst 1, 1), (1721, .iadd, 1), (1722, .iaload, 1), (1723, .aload_n 0, 1), (1724, .iload 5, 2), (1726, .iconst 2, 1), (1727, .iadd, 1), (1728, .iaload, 1), (1729, .invokevirtual 231, 3), (1732, .istore 7, 2), (1734, .aload_n 2, 1), (1735, .invokevirtual 154, 3), (1738, .iload 6, 2), (1740, .if_icmp .eq 5, 3), (1743, .iconst 0, 1), (1744, .ireturn, 1), (1745, .iload 6, 2), (1747, .ifCond .ne 15, 3), (1750, .aload_n 3, 1), (1751, .iconst 0, 1), (1752, .laload, 1), (1753, .iload 7, 2), (1755, .i2l, 1), (1756, .lcmp, 1), (1757, .ifCond .eq 5, 3), (1760, .iconst 0, 1), (1761, .ireturn, 1), (1762, .goto 921, 3), (1765, .aload_n 1, 1), (1766, .aload_n 0, 1), (1767, .iload 5, 2), (1769, .iconst 1, 1), (1770, .iadd, 1), (1771, .iaload, 1), (1772, .aload_n 0, 1), (1773, .iload 5, 2), (1775, .iconst 2, 1), (1776, .iadd, 1), (1777, .iaload, 1)] := by decide +kernel
theorem dL_law_1684 : decode cL_law 1684 = .ok (.iconst 0, 1) := fo_dd DL_law_15 0 rfl
theorem dL_law_1685 : decode cL_law 1685 = .ok (.laload, 1) := fo_dd DL_law_15 1 rfl
theorem dL_law_1686 : decode cL_law 1686 = .ok (.lload 7, 2) := fo_dd DL_law_15 2 rfl
theorem dL_law_1688 : decode cL_law 1688 = .ok (.lcmp, 1) := fo_dd DL_law_15 3 rfl
theorem dL_law_1689 : decode cL_law 1689 = .ok (.ifCond .eq 5, 3) := fo_dd DL_law_15 4 rfl
theorem dL_law_1692 : decode cL_law 1692 = .ok (.iconst 0, 1) := fo_dd DL_law_15 5 rfl
theorem dL_law_1693 : decode cL_law 1693 = .ok (.ireturn, 1) := fo_dd DL_law_15 6 rfl
theorem dL_law_1694 : decode cL_law 1694 = .ok (.goto 989, 3) := fo_dd DL_law_15 7 rfl
theorem dL_law_1697 : decode cL_law 1697 = .ok (.aload_n 1, 1) := fo_dd DL_law_15 8 rfl
theorem dL_law_1698 : decode cL_law 1698 = .ok (.aload_n 0, 1) := fo_dd DL_law_15 9 rfl
theorem dL_law_1699 : decode cL_law 1699 = .ok (.iload 5, 2) := fo_dd DL_law_15 10 rfl
theorem dL_law_1701 : decode cL_law 1701 = .ok (.iconst 1, 1) := fo_dd DL_law_15 11 rfl
theorem dL_law_1702 : decode cL_law 1702 = .ok (.iadd, 1) := fo_dd DL_law_15 12 rfl
theorem dL_law_1703 : decode cL_law 1703 = .ok (.iaload, 1) := fo_dd DL_law_15 13 rfl
theorem dL_law_1704 : decode cL_law 1704 = .ok (.aload_n 0, 1) := fo_dd DL_law_15 14 rfl
theorem dL_law_1705 : decode cL_law 1705 = .ok (.iload 5, 2) := fo_dd DL_law_15 15 rfl
theorem dL_law_1707 : decode cL_law 1707 = .ok (.iconst 2, 1) := fo_dd DL_law_15 16 rfl
theorem dL_law_1708 : decode cL_law 1708 = .ok (.iadd, 1) := fo_dd DL_law_15 17 rfl
theorem dL_law_1709 : decode cL_law 1709 = .ok (.iaload, 1) := fo_dd DL_law_15 18 rfl
theorem dL_law_1710 : decode cL_law 1710 = .ok (.aload_n 3, 1) := fo_dd DL_law_15 19 rfl
theorem dL_law_1711 : decode cL_law 1711 = .ok (.invokestatic 229, 3) := fo_dd DL_law_15 20 rfl
theorem dL_law_1714 : decode cL_law 1714 = .ok (.istore 6, 2) := fo_dd DL_law_15 21 rfl
theorem dL_law_1716 : decode cL_law 1716 = .ok (.aload_n 2, 1) := fo_dd DL_law_15 22 rfl
theorem dL_law_1717 : decode cL_law 1717 = .ok (.aload_n 0, 1) := fo_dd DL_law_15 23 rfl
theorem dL_law_1718 : decode cL_law 1718 = .ok (.iload 5, 2) := fo_dd DL_law_15 24 rfl
theorem dL_law_1720 : decode cL_law 1720 = .ok (.iconst 1, 1) := fo_dd DL_law_15 25 rfl
theorem dL_law_1721 : decode cL_law 1721 = .ok (.iadd, 1) := fo_dd DL_law_15 26 rfl
theorem dL_law_1722 : decode cL_law 1722 = .ok (.iaload, 1) := fo_dd DL_law_15 27 rfl
theorem dL_law_1723 : decode cL_law 1723 = .ok (.aload_n 0, 1) := fo_dd DL_law_15 28 rfl
theorem dL_law_1724 : decode cL_law 1724 = .ok (.iload 5, 2) := fo_dd DL_law_15 29 rfl
theorem dL_law_1726 : decode cL_law 1726 = .ok (.iconst 2, 1) := fo_dd DL_law_15 30 rfl
theorem dL_law_1727 : decode cL_law 1727 = .ok (.iadd, 1) := fo_dd DL_law_15 31 rfl
theorem dL_law_1728 : decode cL_law 1728 = .ok (.iaload, 1) := fo_dd DL_law_15 32 rfl
theorem dL_law_1729 : decode cL_law 1729 = .ok (.invokevirtual 231, 3) := fo_dd DL_law_15 33 rfl
theorem dL_law_1732 : decode cL_law 1732 = .ok (.istore 7, 2) := fo_dd DL_law_15 34 rfl
theorem dL_law_1734 : decode cL_law 1734 = .ok (.aload_n 2, 1) := fo_dd DL_law_15 35 rfl
theorem dL_law_1735 : decode cL_law 1735 = .ok (.invokevirtual 154, 3) := fo_dd DL_law_15 36 rfl
theorem dL_law_1738 : decode cL_law 1738 = .ok (.iload 6, 2) := fo_dd DL_law_15 37 rfl
theorem dL_law_1740 : decode cL_law 1740 = .ok (.if_icmp .eq 5, 3) := fo_dd DL_law_15 38 rfl
theorem dL_law_1743 : decode cL_law 1743 = .ok (.iconst 0, 1) := fo_dd DL_law_15 39 rfl
theorem dL_law_1744 : decode cL_law 1744 = .ok (.ireturn, 1) := fo_dd DL_law_15 40 rfl
theorem dL_law_1745 : decode cL_law 1745 = .ok (.iload 6, 2) := fo_dd DL_law_15 41 rfl
theorem dL_law_1747 : decode cL_law 1747 = .ok (.ifCond .ne 15, 3) := fo_dd DL_law_15 42 rfl
theorem dL_law_1750 : decode cL_law 1750 = .ok (.aload_n 3, 1) := fo_dd DL_law_15 43 rfl
theorem dL_law_1751 : decode cL_law 1751 = .ok (.iconst 0, 1) := fo_dd DL_law_15 44 rfl
theorem dL_law_1752 : decode cL_law 1752 = .ok (.laload, 1) := fo_dd DL_law_15 45 rfl
theorem dL_law_1753 : decode cL_law 1753 = .ok (.iload 7, 2) := fo_dd DL_law_15 46 rfl
theorem dL_law_1755 : decode cL_law 1755 = .ok (.i2l, 1) := fo_dd DL_law_15 47 rfl
theorem dL_law_1756 : decode cL_law 1756 = .ok (.lcmp, 1) := fo_dd DL_law_15 48 rfl
theorem dL_law_1757 : decode cL_law 1757 = .ok (.ifCond .eq 5, 3) := fo_dd DL_law_15 49 rfl
theorem dL_law_1760 : decode cL_law 1760 = .ok (.iconst 0, 1) := fo_dd DL_law_15 50 rfl
theorem dL_law_1761 : decode cL_law 1761 = .ok (.ireturn, 1) := fo_dd DL_law_15 51 rfl
theorem dL_law_1762 : decode cL_law 1762 = .ok (.goto 921, 3) := fo_dd DL_law_15 52 rfl
theorem dL_law_1765 : decode cL_law 1765 = .ok (.aload_n 1, 1) := fo_dd DL_law_15 53 rfl
theorem dL_law_1766 : decode cL_law 1766 = .ok (.aload_n 0, 1) := fo_dd DL_law_15 54 rfl
theorem dL_law_1767 : decode cL_law 1767 = .ok (.iload 5, 2) := fo_dd DL_law_15 55 rfl
theorem dL_law_1769 : decode cL_law 1769 = .ok (.iconst 1, 1) := fo_dd DL_law_15 56 rfl
theorem dL_law_1770 : decode cL_law 1770 = .ok (.iadd, 1) := fo_dd DL_law_15 57 rfl
theorem dL_law_1771 : decode cL_law 1771 = .ok (.iaload, 1) := fo_dd DL_law_15 58 rfl
theorem dL_law_1772 : decode cL_law 1772 = .ok (.aload_n 0, 1) := fo_dd DL_law_15 59 rfl
theorem dL_law_1773 : decode cL_law 1773 = .ok (.iload 5, 2) := fo_dd DL_law_15 60 rfl
theorem dL_law_1775 : decode cL_law 1775 = .ok (.iconst 2, 1) := fo_dd DL_law_15 61 rfl
theorem dL_law_1776 : decode cL_law 1776 = .ok (.iadd, 1) := fo_dd DL_law_15 62 rfl
theorem dL_law_1777 : decode cL_law 1777 = .ok (.iaload, 1) := fo_dd DL_law_15 63 rfl
theorem DL_law_16 : fo_dl cL_law [(1778, .aload 4, 2), (1780, .invokestatic 232, 3), (1783, .istore 6, 2), (1785, .aload_n 2, 1), (1786, .aload_n 0, 1), (1787, .iload 5, 2), (1789, .iconst 1, 1), (1790, .iadd, 1), (1791, .iaload, 1), (1792, .aload_n 0, 1), (1793, .iload 5, 2), (1795, .iconst 2, 1), (1796, .iadd, 1), (1797, .iaload, 1), (1798, .invokevirtual 234, 3), (1801, .dstore 7, 2), (1803, .aload_n 2, 1), (1804, .invokevirtual 154, 3), (1807, .iload 6, 2), (1809, .if_icmp .eq 5, 3), (1812, .iconst 0, 1), (1813, .ireturn, 1), (1814, .iload 6, 2), (1816, .ifCond .ne 35, 3), (1819, .aload 4, 2), (1821, .iconst 0, 1), (1822, .daload, 1), (1823, .dload 7, 2), (1825, .dcmp .l, 1), (1826, .ifCond .eq 25, 3), (1829, .aload 4, 2), (1831, .iconst 0, 1), (1832, .daload, 1), (1833, .aload 4, 2), (1835, .iconst 0, 1), (1836, .daload, 1), (1837, .dcmp .l, 1), (1838, .ifCond .eq 11, 3), (1841, .dload 7, 2), (1843, .dload 7, 2), (1845, .dcmp .l, 1), (1846, .ifCond .ne 5, 3), (1849, .iconst 0, 1), (1850, .ireturn, 1), (1851, .goto 832, 3), (1854, .aload_n 1, 1), (1855, .aload_n 0, 1), (1856, .iload 5, 2), (1858, .iconst 1, 1), (1859, .iadd, 1), (1860, .iaload, 1), (1861, .aload_n 0, 1), (1862, .iload 5, 2), (1864, .iconst 2, 1), (1865, .iadd, 1), (1866, .iaload, 1), (1867, .aload 4, 2), (1869, .invokestatic 235, 3), (1872, .istore 6, 2), (1874, .aload_n 2, 1), (1875, .aload_n 0, 1), (1876, .iload 5, 2), (1878, .iconst 1, 1), (1879, .iadd, 1)] := by decide +kernel
theorem dL_law_1778 : decode cL_law 1778 = .ok (.aload 4, 2) := fo_dd DL_law_16 0 rfl
theorem dL_law_1780 : decode cL_law 1780 = .ok (.invokestatic 232, 3) := fo_dd DL_law_16 1 rfl
theorem dL_law_1783 : decode cL_law 1783 = .ok (.istore 6, 2) := fo_dd DL_law_16 2 rfl
theorem dL_law_1785 : decode cL_law 1785 = .ok (.aload_n 2, 1) := fo_dd DL_law_16 3 rfl
theorem dL_law_1786 : decode cL_law 1786 = .ok (.aload_n 0, 1) := fo_dd DL_law_16 4 rfl
theorem dL_law_1787 : decode cL_law 1787 = .ok (.iload 5, 2) := fo_dd DL_law_16 5 rfl
theorem dL_law_1789 : decode cL_law 1789 = .ok (.iconst 1, 1) := fo_dd DL_law_16 6 rfl
theorem dL_law_1790 : decode cL_law 1790 = .ok (.iadd, 1) := fo_dd DL_law_16 7 rfl
theorem dL_law_1791 : decode cL_law 1791 = .ok (.iaload, 1) := fo_dd DL_law_16 8 rfl
theorem dL_law_1792 : decode cL_law 1792 = .ok (.aload_n 0, 1) := fo_dd DL_law_16 9 rfl
theorem dL_law_1793 : decode cL_law 1793 = .ok (.iload 5, 2) := fo_dd DL_law_16 10 rfl
theorem dL_law_1795 : decode cL_law 1795 = .ok (.iconst 2, 1) := fo_dd DL_law_16 11 rfl
theorem dL_law_1796 : decode cL_law 1796 = .ok (.iadd, 1) := fo_dd DL_law_16 12 rfl
theorem dL_law_1797 : decode cL_law 1797 = .ok (.iaload, 1) := fo_dd DL_law_16 13 rfl
theorem dL_law_1798 : decode cL_law 1798 = .ok (.invokevirtual 234, 3) := fo_dd DL_law_16 14 rfl
theorem dL_law_1801 : decode cL_law 1801 = .ok (.dstore 7, 2) := fo_dd DL_law_16 15 rfl
theorem dL_law_1803 : decode cL_law 1803 = .ok (.aload_n 2, 1) := fo_dd DL_law_16 16 rfl
theorem dL_law_1804 : decode cL_law 1804 = .ok (.invokevirtual 154, 3) := fo_dd DL_law_16 17 rfl
theorem dL_law_1807 : decode cL_law 1807 = .ok (.iload 6, 2) := fo_dd DL_law_16 18 rfl
theorem dL_law_1809 : decode cL_law 1809 = .ok (.if_icmp .eq 5, 3) := fo_dd DL_law_16 19 rfl
theorem dL_law_1812 : decode cL_law 1812 = .ok (.iconst 0, 1) := fo_dd DL_law_16 20 rfl
theorem dL_law_1813 : decode cL_law 1813 = .ok (.ireturn, 1) := fo_dd DL_law_16 21 rfl
theorem dL_law_1814 : decode cL_law 1814 = .ok (.iload 6, 2) := fo_dd DL_law_16 22 rfl
theorem dL_law_1816 : decode cL_law 1816 = .ok (.ifCond .ne 35, 3) := fo_dd DL_law_16 23 rfl
theorem dL_law_1819 : decode cL_law 1819 = .ok (.aload 4, 2) := fo_dd DL_law_16 24 rfl
theorem dL_law_1821 : decode cL_law 1821 = .ok (.iconst 0, 1) := fo_dd DL_law_16 25 rfl
theorem dL_law_1822 : decode cL_law 1822 = .ok (.daload, 1) := fo_dd DL_law_16 26 rfl
theorem dL_law_1823 : decode cL_law 1823 = .ok (.dload 7, 2) := fo_dd DL_law_16 27 rfl
theorem dL_law_1825 : decode cL_law 1825 = .ok (.dcmp .l, 1) := fo_dd DL_law_16 28 rfl
theorem dL_law_1826 : decode cL_law 1826 = .ok (.ifCond .eq 25, 3) := fo_dd DL_law_16 29 rfl
theorem dL_law_1829 : decode cL_law 1829 = .ok (.aload 4, 2) := fo_dd DL_law_16 30 rfl
theorem dL_law_1831 : decode cL_law 1831 = .ok (.iconst 0, 1) := fo_dd DL_law_16 31 rfl
theorem dL_law_1832 : decode cL_law 1832 = .ok (.daload, 1) := fo_dd DL_law_16 32 rfl
theorem dL_law_1833 : decode cL_law 1833 = .ok (.aload 4, 2) := fo_dd DL_law_16 33 rfl
theorem dL_law_1835 : decode cL_law 1835 = .ok (.iconst 0, 1) := fo_dd DL_law_16 34 rfl
theorem dL_law_1836 : decode cL_law 1836 = .ok (.daload, 1) := fo_dd DL_law_16 35 rfl
theorem dL_law_1837 : decode cL_law 1837 = .ok (.dcmp .l, 1) := fo_dd DL_law_16 36 rfl
theorem dL_law_1838 : decode cL_law 1838 = .ok (.ifCond .eq 11, 3) := fo_dd DL_law_16 37 rfl
theorem dL_law_1841 : decode cL_law 1841 = .ok (.dload 7, 2) := fo_dd DL_law_16 38 rfl
theorem dL_law_1843 : decode cL_law 1843 = .ok (.dload 7, 2) := fo_dd DL_law_16 39 rfl
theorem dL_law_1845 : decode cL_law 1845 = .ok (.dcmp .l, 1) := fo_dd DL_law_16 40 rfl
theorem dL_law_1846 : decode cL_law 1846 = .ok (.ifCond .ne 5, 3) := fo_dd DL_law_16 41 rfl
theorem dL_law_1849 : decode cL_law 1849 = .ok (.iconst 0, 1) := fo_dd DL_law_16 42 rfl
theorem dL_law_1850 : decode cL_law 1850 = .ok (.ireturn, 1) := fo_dd DL_law_16 43 rfl
theorem dL_law_1851 : decode cL_law 1851 = .ok (.goto 832, 3) := fo_dd DL_law_16 44 rfl
theorem dL_law_1854 : decode cL_law 1854 = .ok (.aload_n 1, 1) := fo_dd DL_law_16 45 rfl
theorem dL_law_1855 : decode cL_law 1855 = .ok (.aload_n 0, 1) := fo_dd DL_law_16 46 rfl
theorem dL_law_1856 : decode cL_law 1856 = .ok (.iload 5, 2) := fo_dd DL_law_16 47 rfl
theorem dL_law_1858 : decode cL_law 1858 = .ok (.iconst 1, 1) := fo_dd DL_law_16 48 rfl
theorem dL_law_1859 : decode cL_law 1859 = .ok (.iadd, 1) := fo_dd DL_law_16 49 rfl
theorem dL_law_1860 : decode cL_law 1860 = .ok (.iaload, 1) := fo_dd DL_law_16 50 rfl
theorem dL_law_1861 : decode cL_law 1861 = .ok (.aload_n 0, 1) := fo_dd DL_law_16 51 rfl
theorem dL_law_1862 : decode cL_law 1862 = .ok (.iload 5, 2) := fo_dd DL_law_16 52 rfl
theorem dL_law_1864 : decode cL_law 1864 = .ok (.iconst 2, 1) := fo_dd DL_law_16 53 rfl
theorem dL_law_1865 : decode cL_law 1865 = .ok (.iadd, 1) := fo_dd DL_law_16 54 rfl
theorem dL_law_1866 : decode cL_law 1866 = .ok (.iaload, 1) := fo_dd DL_law_16 55 rfl
theorem dL_law_1867 : decode cL_law 1867 = .ok (.aload 4, 2) := fo_dd DL_law_16 56 rfl
theorem dL_law_1869 : decode cL_law 1869 = .ok (.invokestatic 235, 3) := fo_dd DL_law_16 57 rfl
theorem dL_law_1872 : decode cL_law 1872 = .ok (.istore 6, 2) := fo_dd DL_law_16 58 rfl
theorem dL_law_1874 : decode cL_law 1874 = .ok (.aload_n 2, 1) := fo_dd DL_law_16 59 rfl
theorem dL_law_1875 : decode cL_law 1875 = .ok (.aload_n 0, 1) := fo_dd DL_law_16 60 rfl
theorem dL_law_1876 : decode cL_law 1876 = .ok (.iload 5, 2) := fo_dd DL_law_16 61 rfl
theorem dL_law_1878 : decode cL_law 1878 = .ok (.iconst 1, 1) := fo_dd DL_law_16 62 rfl
theorem dL_law_1879 : decode cL_law 1879 = .ok (.iadd, 1) := fo_dd DL_law_16 63 rfl
theorem DL_law_17 : fo_dl cL_law [(1880, .iaload, 1), (1881, .aload_n 0, 1), (1882, .iload 5, 2), (1884, .iconst 2, 1), (1885, .iadd, 1), (1886, .iaload, 1), (1887, .invokevirtual 237, 3), (1890, .dstore 7, 2), (1892, .aload_n 2, 1), (1893, .invokevirtual 154, 3), (1896, .iload 6, 2), (1898, .if_icmp .eq 5, 3), (1901, .iconst 0, 1), (1902, .ireturn, 1), (1903, .iload 6, 2), (1905, .ifCond .ne 35, 3), (1908, .aload 4, 2), (1910, .iconst 0, 1), (1911, .daload, 1), (1912, .dload 7, 2), (1914, .dcmp .l, 1), (1915, .ifCond .eq 25, 3), (1918, .aload 4, 2), (1920, .iconst 0, 1), (1921, .daload, 1), (1922, .aload 4, 2), (1924, .iconst 0, 1), (1925, .daload, 1), (1926, .dcmp .l, 1), (1927, .ifCond .eq 11, 3), (1930, .dload 7, 2), (1932, .dload 7, 2), (1934, .dcmp .l, 1), (1935, .ifCond .ne 5, 3), (1938, .iconst 0, 1), (1939, .ireturn, 1), (1940, .goto 743, 3), (1943, .aload_n 1, 1), (1944, .aload_n 0, 1), (1945, .iload 5, 2), (1947, .iconst 1, 1), (1948, .iadd, 1), (1949, .iaload, 1), (1950, .aload_n 0, 1), (1951, .iload 5, 2), (1953, .iconst 2, 1), (1954, .iadd, 1), (1955, .iaload, 1), (1956, .aload_n 3, 1), (1957, .invokestatic 238, 3), (1960, .istore 6, 2), (1962, .aload_n 2, 1), (1963, .aload_n 0, 1), (1964, .iload 5, 2), (1966, .iconst 1, 1), (1967, .iadd, 1), (1968, .iaload, 1), (1969, .aload_n 0, 1), (1970, .iload 5, 2), (1972, .iconst 2, 1), (1973, .iadd, 1), (1974, .iaload, 1), (1975, .invokevirtual 240, 3), (1978, .istore 7, 2)] := by decide +kernel
theorem dL_law_1880 : decode cL_law 1880 = .ok (.iaload, 1) := fo_dd DL_law_17 0 rfl
theorem dL_law_1881 : decode cL_law 1881 = .ok (.aload_n 0, 1) := fo_dd DL_law_17 1 rfl
theorem dL_law_1882 : decode cL_law 1882 = .ok (.iload 5, 2) := fo_dd DL_law_17 2 rfl
theorem dL_law_1884 : decode cL_law 1884 = .ok (.iconst 2, 1) := fo_dd DL_law_17 3 rfl
theorem dL_law_1885 : decode cL_law 1885 = .ok (.iadd, 1) := fo_dd DL_law_17 4 rfl
theorem dL_law_1886 : decode cL_law 1886 = .ok (.iaload, 1) := fo_dd DL_law_17 5 rfl
theorem dL_law_1887 : decode cL_law 1887 = .ok (.invokevirtual 237, 3) := fo_dd DL_law_17 6 rfl
theorem dL_law_1890 : decode cL_law 1890 = .ok (.dstore 7, 2) := fo_dd DL_law_17 7 rfl
theorem dL_law_1892 : decode cL_law 1892 = .ok (.aload_n 2, 1) := fo_dd DL_law_17 8 rfl
theorem dL_law_1893 : decode cL_law 1893 = .ok (.invokevirtual 154, 3) := fo_dd DL_law_17 9 rfl
theorem dL_law_1896 : decode cL_law 1896 = .ok (.iload 6, 2) := fo_dd DL_law_17 10 rfl
theorem dL_law_1898 : decode cL_law 1898 = .ok (.if_icmp .eq 5, 3) := fo_dd DL_law_17 11 rfl
theorem dL_law_1901 : decode cL_law 1901 = .ok (.iconst 0, 1) := fo_dd DL_law_17 12 rfl
theorem dL_law_1902 : decode cL_law 1902 = .ok (.ireturn, 1) := fo_dd DL_law_17 13 rfl
theorem dL_law_1903 : decode cL_law 1903 = .ok (.iload 6, 2) := fo_dd DL_law_17 14 rfl
theorem dL_law_1905 : decode cL_law 1905 = .ok (.ifCond .ne 35, 3) := fo_dd DL_law_17 15 rfl
theorem dL_law_1908 : decode cL_law 1908 = .ok (.aload 4, 2) := fo_dd DL_law_17 16 rfl
theorem dL_law_1910 : decode cL_law 1910 = .ok (.iconst 0, 1) := fo_dd DL_law_17 17 rfl
theorem dL_law_1911 : decode cL_law 1911 = .ok (.daload, 1) := fo_dd DL_law_17 18 rfl
theorem dL_law_1912 : decode cL_law 1912 = .ok (.dload 7, 2) := fo_dd DL_law_17 19 rfl
theorem dL_law_1914 : decode cL_law 1914 = .ok (.dcmp .l, 1) := fo_dd DL_law_17 20 rfl
theorem dL_law_1915 : decode cL_law 1915 = .ok (.ifCond .eq 25, 3) := fo_dd DL_law_17 21 rfl
theorem dL_law_1918 : decode cL_law 1918 = .ok (.aload 4, 2) := fo_dd DL_law_17 22 rfl
theorem dL_law_1920 : decode cL_law 1920 = .ok (.iconst 0, 1) := fo_dd DL_law_17 23 rfl
theorem dL_law_1921 : decode cL_law 1921 = .ok (.daload, 1) := fo_dd DL_law_17 24 rfl
theorem dL_law_1922 : decode cL_law 1922 = .ok (.aload 4, 2) := fo_dd DL_law_17 25 rfl
theorem dL_law_1924 : decode cL_law 1924 = .ok (.iconst 0, 1) := fo_dd DL_law_17 26 rfl
theorem dL_law_1925 : decode cL_law 1925 = .ok (.daload, 1) := fo_dd DL_law_17 27 rfl
theorem dL_law_1926 : decode cL_law 1926 = .ok (.dcmp .l, 1) := fo_dd DL_law_17 28 rfl
theorem dL_law_1927 : decode cL_law 1927 = .ok (.ifCond .eq 11, 3) := fo_dd DL_law_17 29 rfl
theorem dL_law_1930 : decode cL_law 1930 = .ok (.dload 7, 2) := fo_dd DL_law_17 30 rfl
theorem dL_law_1932 : decode cL_law 1932 = .ok (.dload 7, 2) := fo_dd DL_law_17 31 rfl
theorem dL_law_1934 : decode cL_law 1934 = .ok (.dcmp .l, 1) := fo_dd DL_law_17 32 rfl
theorem dL_law_1935 : decode cL_law 1935 = .ok (.ifCond .ne 5, 3) := fo_dd DL_law_17 33 rfl
theorem dL_law_1938 : decode cL_law 1938 = .ok (.iconst 0, 1) := fo_dd DL_law_17 34 rfl
theorem dL_law_1939 : decode cL_law 1939 = .ok (.ireturn, 1) := fo_dd DL_law_17 35 rfl
theorem dL_law_1940 : decode cL_law 1940 = .ok (.goto 743, 3) := fo_dd DL_law_17 36 rfl
theorem dL_law_1943 : decode cL_law 1943 = .ok (.aload_n 1, 1) := fo_dd DL_law_17 37 rfl
theorem dL_law_1944 : decode cL_law 1944 = .ok (.aload_n 0, 1) := fo_dd DL_law_17 38 rfl
theorem dL_law_1945 : decode cL_law 1945 = .ok (.iload 5, 2) := fo_dd DL_law_17 39 rfl
theorem dL_law_1947 : decode cL_law 1947 = .ok (.iconst 1, 1) := fo_dd DL_law_17 40 rfl
theorem dL_law_1948 : decode cL_law 1948 = .ok (.iadd, 1) := fo_dd DL_law_17 41 rfl
theorem dL_law_1949 : decode cL_law 1949 = .ok (.iaload, 1) := fo_dd DL_law_17 42 rfl
theorem dL_law_1950 : decode cL_law 1950 = .ok (.aload_n 0, 1) := fo_dd DL_law_17 43 rfl
theorem dL_law_1951 : decode cL_law 1951 = .ok (.iload 5, 2) := fo_dd DL_law_17 44 rfl
theorem dL_law_1953 : decode cL_law 1953 = .ok (.iconst 2, 1) := fo_dd DL_law_17 45 rfl
theorem dL_law_1954 : decode cL_law 1954 = .ok (.iadd, 1) := fo_dd DL_law_17 46 rfl
theorem dL_law_1955 : decode cL_law 1955 = .ok (.iaload, 1) := fo_dd DL_law_17 47 rfl
theorem dL_law_1956 : decode cL_law 1956 = .ok (.aload_n 3, 1) := fo_dd DL_law_17 48 rfl
theorem dL_law_1957 : decode cL_law 1957 = .ok (.invokestatic 238, 3) := fo_dd DL_law_17 49 rfl
theorem dL_law_1960 : decode cL_law 1960 = .ok (.istore 6, 2) := fo_dd DL_law_17 50 rfl
theorem dL_law_1962 : decode cL_law 1962 = .ok (.aload_n 2, 1) := fo_dd DL_law_17 51 rfl
theorem dL_law_1963 : decode cL_law 1963 = .ok (.aload_n 0, 1) := fo_dd DL_law_17 52 rfl
theorem dL_law_1964 : decode cL_law 1964 = .ok (.iload 5, 2) := fo_dd DL_law_17 53 rfl
theorem dL_law_1966 : decode cL_law 1966 = .ok (.iconst 1, 1) := fo_dd DL_law_17 54 rfl
theorem dL_law_1967 : decode cL_law 1967 = .ok (.iadd, 1) := fo_dd DL_law_17 55 rfl
theorem dL_law_1968 : decode cL_law 1968 = .ok (.iaload, 1) := fo_dd DL_law_17 56 rfl
theorem dL_law_1969 : decode cL_law 1969 = .ok (.aload_n 0, 1) := fo_dd DL_law_17 57 rfl
theorem dL_law_1970 : decode cL_law 1970 = .ok (.iload 5, 2) := fo_dd DL_law_17 58 rfl
theorem dL_law_1972 : decode cL_law 1972 = .ok (.iconst 2, 1) := fo_dd DL_law_17 59 rfl
theorem dL_law_1973 : decode cL_law 1973 = .ok (.iadd, 1) := fo_dd DL_law_17 60 rfl
theorem dL_law_1974 : decode cL_law 1974 = .ok (.iaload, 1) := fo_dd DL_law_17 61 rfl
theorem dL_law_1975 : decode cL_law 1975 = .ok (.invokevirtual 240, 3) := fo_dd DL_law_17 62 rfl
theorem dL_law_1978 : decode cL_law 1978 = .ok (.istore 7, 2) := fo_dd DL_law_17 63 rfl
theorem DL_law_18 : fo_dl cL_law [(1980, .aload_n 2, 1), (1981, .invokevirtual 154, 3), (1984, .iload 6, 2), (1986, .if_icmp .eq 5, 3), (1989, .iconst 0, 1), (1990, .ireturn, 1), (1991, .iload 6, 2), (1993, .ifCond .ne 15, 3), (1996, .aload_n 3, 1), (1997, .iconst 0, 1), (1998, .laload, 1), (1999, .iload 7, 2), (2001, .i2l, 1), (2002, .lcmp, 1), (2003, .ifCond .eq 5, 3), (2006, .iconst 0, 1), (2007, .ireturn, 1), (2008, .goto 675, 3), (2011, .aload_n 1, 1), (2012, .aload_n 0, 1), (2013, .iload 5, 2), (2015, .iconst 1, 1), (2016, .iadd, 1), (2017, .iaload, 1), (2018, .aload 4, 2), (2020, .invokestatic 241, 3), (2023, .istore 6, 2), (2025, .aload_n 2, 1), (2026, .aload_n 0, 1), (2027, .iload 5, 2), (2029, .iconst 1, 1), (2030, .iadd, 1), (2031, .iaload, 1), (2032, .invokevirtual 244, 3), (2035, .dstore 7, 2), (2037, .aload_n 2, 1), (2038, .invokevirtual 154, 3), (2041, .iload 6, 2), (2043, .if_icmp .eq 5, 3), (2046, .iconst 0, 1), (2047, .ireturn, 1), (2048, .iload 6, 2), (2050, .ifCond .ne 35, 3), (2053, .aload 4, 2), (2055, .iconst 0, 1), (2056, .daload, 1), (2057, .dload 7, 2), (2059, .dcmp .l, 1), (2060, .ifCond .eq 25, 3), (2063, .aload 4, 2), (2065, .iconst 0, 1), (2066, .daload, 1), (2067, .aload 4, 2), (2069, .iconst 0, 1), (2070, .daload, 1), (2071, .dcmp .l, 1), (2072, .ifCond .eq 11, 3), (2075, .dload 7, 2), (2077, .dload 7, 2), (2079, .dcmp .l, 1), (2080, .ifCond .ne 5, 3), (2083, .iconst 0, 1), (2084, .ireturn, 1), (2085, .goto 598, 3)] := by decide +kernel
theorem dL_law_1980 : decode cL_law 1980 = .ok (.aload_n 2, 1) := fo_dd DL_law_18 0 rfl
theorem dL_law_1981 : decode cL_law 1981 = .ok (.invokevirtual 154, 3) := fo_dd DL_law_18 1 rfl
theorem dL_law_1984 : decode cL_law 1984 = .ok (.iload 6, 2) := fo_dd DL_law_18 2 rfl
theorem dL_law_1986 : decode cL_law 1986 = .ok (.if_icmp .eq 5, 3) := fo_dd DL_law_18 3 rfl
theorem dL_law_1989 : decode cL_law 1989 = .ok (.iconst 0, 1) := fo_dd DL_law_18 4 rfl
theorem dL_law_1990 : decode cL_law 1990 = .ok (.ireturn, 1) := fo_dd DL_law_18 5 rfl
theorem dL_law_1991 : decode cL_law 1991 = .ok (.iload 6, 2) := fo_dd DL_law_18 6 rfl
theorem dL_law_1993 : decode cL_law 1993 = .ok (.ifCond .ne 15, 3) := fo_dd DL_law_18 7 rfl
theorem dL_law_1996 : decode cL_law 1996 = .ok (.aload_n 3, 1) := fo_dd DL_law_18 8 rfl
theorem dL_law_1997 : decode cL_law 1997 = .ok (.iconst 0, 1) := fo_dd DL_law_18 9 rfl
theorem dL_law_1998 : decode cL_law 1998 = .ok (.laload, 1) := fo_dd DL_law_18 10 rfl
theorem dL_law_1999 : decode cL_law 1999 = .ok (.iload 7, 2) := fo_dd DL_law_18 11 rfl
theorem dL_law_2001 : decode cL_law 2001 = .ok (.i2l, 1) := fo_dd DL_law_18 12 rfl
theorem dL_law_2002 : decode cL_law 2002 = .ok (.lcmp, 1) := fo_dd DL_law_18 13 rfl
theorem dL_law_2003 : decode cL_law 2003 = .ok (.ifCond .eq 5, 3) := fo_dd DL_law_18 14 rfl
theorem dL_law_2006 : decode cL_law 2006 = .ok (.iconst 0, 1) := fo_dd DL_law_18 15 rfl
theorem dL_law_2007 : decode cL_law 2007 = .ok (.ireturn, 1) := fo_dd DL_law_18 16 rfl
theorem dL_law_2008 : decode cL_law 2008 = .ok (.goto 675, 3) := fo_dd DL_law_18 17 rfl
theorem dL_law_2011 : decode cL_law 2011 = .ok (.aload_n 1, 1) := fo_dd DL_law_18 18 rfl
theorem dL_law_2012 : decode cL_law 2012 = .ok (.aload_n 0, 1) := fo_dd DL_law_18 19 rfl
theorem dL_law_2013 : decode cL_law 2013 = .ok (.iload 5, 2) := fo_dd DL_law_18 20 rfl
theorem dL_law_2015 : decode cL_law 2015 = .ok (.iconst 1, 1) := fo_dd DL_law_18 21 rfl
theorem dL_law_2016 : decode cL_law 2016 = .ok (.iadd, 1) := fo_dd DL_law_18 22 rfl
theorem dL_law_2017 : decode cL_law 2017 = .ok (.iaload, 1) := fo_dd DL_law_18 23 rfl
theorem dL_law_2018 : decode cL_law 2018 = .ok (.aload 4, 2) := fo_dd DL_law_18 24 rfl
theorem dL_law_2020 : decode cL_law 2020 = .ok (.invokestatic 241, 3) := fo_dd DL_law_18 25 rfl
theorem dL_law_2023 : decode cL_law 2023 = .ok (.istore 6, 2) := fo_dd DL_law_18 26 rfl
theorem dL_law_2025 : decode cL_law 2025 = .ok (.aload_n 2, 1) := fo_dd DL_law_18 27 rfl
theorem dL_law_2026 : decode cL_law 2026 = .ok (.aload_n 0, 1) := fo_dd DL_law_18 28 rfl
theorem dL_law_2027 : decode cL_law 2027 = .ok (.iload 5, 2) := fo_dd DL_law_18 29 rfl
theorem dL_law_2029 : decode cL_law 2029 = .ok (.iconst 1, 1) := fo_dd DL_law_18 30 rfl
theorem dL_law_2030 : decode cL_law 2030 = .ok (.iadd, 1) := fo_dd DL_law_18 31 rfl
theorem dL_law_2031 : decode cL_law 2031 = .ok (.iaload, 1) := fo_dd DL_law_18 32 rfl
theorem dL_law_2032 : decode cL_law 2032 = .ok (.invokevirtual 244, 3) := fo_dd DL_law_18 33 rfl
theorem dL_law_2035 : decode cL_law 2035 = .ok (.dstore 7, 2) := fo_dd DL_law_18 34 rfl
theorem dL_law_2037 : decode cL_law 2037 = .ok (.aload_n 2, 1) := fo_dd DL_law_18 35 rfl
theorem dL_law_2038 : decode cL_law 2038 = .ok (.invokevirtual 154, 3) := fo_dd DL_law_18 36 rfl
theorem dL_law_2041 : decode cL_law 2041 = .ok (.iload 6, 2) := fo_dd DL_law_18 37 rfl
theorem dL_law_2043 : decode cL_law 2043 = .ok (.if_icmp .eq 5, 3) := fo_dd DL_law_18 38 rfl
theorem dL_law_2046 : decode cL_law 2046 = .ok (.iconst 0, 1) := fo_dd DL_law_18 39 rfl
theorem dL_law_2047 : decode cL_law 2047 = .ok (.ireturn, 1) := fo_dd DL_law_18 40 rfl
theorem dL_law_2048 : decode cL_law 2048 = .ok (.iload 6, 2) := fo_dd DL_law_18 41 rfl
theorem dL_law_2050 : decode cL_law 2050 = .ok (.ifCond .ne 35, 3) := fo_dd DL_law_18 42 rfl
theorem dL_law_2053 : decode cL_law 2053 = .ok (.aload 4, 2) := fo_dd DL_law_18 43 rfl
theorem dL_law_2055 : decode cL_law 2055 = .ok (.iconst 0, 1) := fo_dd DL_law_18 44 rfl
theorem dL_law_2056 : decode cL_law 2056 = .ok (.daload, 1) := fo_dd DL_law_18 45 rfl
theorem dL_law_2057 : decode cL_law 2057 = .ok (.dload 7, 2) := fo_dd DL_law_18 46 rfl
theorem dL_law_2059 : decode cL_law 2059 = .ok (.dcmp .l, 1) := fo_dd DL_law_18 47 rfl
theorem dL_law_2060 : decode cL_law 2060 = .ok (.ifCond .eq 25, 3) := fo_dd DL_law_18 48 rfl
theorem dL_law_2063 : decode cL_law 2063 = .ok (.aload 4, 2) := fo_dd DL_law_18 49 rfl
theorem dL_law_2065 : decode cL_law 2065 = .ok (.iconst 0, 1) := fo_dd DL_law_18 50 rfl
theorem dL_law_2066 : decode cL_law 2066 = .ok (.daload, 1) := fo_dd DL_law_18 51 rfl
theorem dL_law_2067 : decode cL_law 2067 = .ok (.aload 4, 2) := fo_dd DL_law_18 52 rfl
theorem dL_law_2069 : decode cL_law 2069 = .ok (.iconst 0, 1) := fo_dd DL_law_18 53 rfl
theorem dL_law_2070 : decode cL_law 2070 = .ok (.daload, 1) := fo_dd DL_law_18 54 rfl
theorem dL_law_2071 : decode cL_law 2071 = .ok (.dcmp .l, 1) := fo_dd DL_law_18 55 rfl
theorem dL_law_2072 : decode cL_law 2072 = .ok (.ifCond .eq 11, 3) := fo_dd DL_law_18 56 rfl
theorem dL_law_2075 : decode cL_law 2075 = .ok (.dload 7, 2) := fo_dd DL_law_18 57 rfl
theorem dL_law_2077 : decode cL_law 2077 = .ok (.dload 7, 2) := fo_dd DL_law_18 58 rfl
theorem dL_law_2079 : decode cL_law 2079 = .ok (.dcmp .l, 1) := fo_dd DL_law_18 59 rfl
theorem dL_law_2080 : decode cL_law 2080 = .ok (.ifCond .ne 5, 3) := fo_dd DL_law_18 60 rfl
theorem dL_law_2083 : decode cL_law 2083 = .ok (.iconst 0, 1) := fo_dd DL_law_18 61 rfl
theorem dL_law_2084 : decode cL_law 2084 = .ok (.ireturn, 1) := fo_dd DL_law_18 62 rfl
theorem dL_law_2085 : decode cL_law 2085 = .ok (.goto 598, 3) := fo_dd DL_law_18 63 rfl
theorem DL_law_19 : fo_dl cL_law [(2088, .aload_n 1, 1), (2089, .aload_n 0, 1), (2090, .iload 5, 2), (2092, .iconst 1, 1), (2093, .iadd, 1), (2094, .iaload, 1), (2095, .aload_n 3, 1), (2096, .invokestatic 245, 3), (2099, .istore 6, 2), (2101, .aload_n 2, 1), (2102, .aload_n 0, 1), (2103, .iload 5, 2), (2105, .iconst 1, 1), (2106, .iadd, 1), (2107, .iaload, 1), (2108, .invokevirtual 247, 3), (2111, .istore 7, 2), (2113, .aload_n 2, 1), (2114, .invokevirtual 154, 3), (2117, .iload 6, 2), (2119, .if_icmp .eq 5, 3), (2122, .iconst 0, 1), (2123, .ireturn, 1), (2124, .iload 6, 2), (2126, .ifCond .ne 15, 3), (2129, .aload_n 3, 1), (2130, .iconst 0, 1), (2131, .laload, 1), (2132, .iload 7, 2), (2134, .i2l, 1), (2135, .lcmp, 1), (2136, .ifCond .eq 5, 3), (2139, .iconst 0, 1), (2140, .ireturn, 1), (2141, .goto 542, 3), (2144, .aload_n 1, 1), (2145, .aload_n 3, 1), (2146, .invokestatic 248, 3), (2149, .istore 6, 2), (2151, .aload_n 2, 1), (2152, .invokevirtual 251, 3), (2155, .istore 7, 2), (2157, .aload_n 2, 1), (2158, .invokevirtual 154, 3), (2161, .iload 6, 2), (2163, .if_icmp .eq 5, 3), (2166, .iconst 0, 1), (2167, .ireturn, 1), (2168, .iload 6, 2), (2170, .ifCond .ne 15, 3), (2173, .aload_n 3, 1), (2174, .iconst 0, 1), (2175, .laload, 1), (2176, .iload 7, 2), (2178, .i2l, 1), (2179, .lcmp, 1), (2180, .ifCond .eq 5, 3), (2183, .iconst 0, 1), (2184, .ireturn, 1), (2185, .goto 498, 3), (2188, .aload_n 1, 1), (2189, .aload 4, 2), (2191, .invokestatic 252, 3), (2194, .istore 6, 2)] := by decide +kernel
theorem dL_law_2088 : decode cL_law 2088 = .ok (.aload_n 1, 1) := fo_dd DL_law_19 0 rfl
theorem dL_law_2089 : decode cL_law 2089 = .ok (.aload_n 0, 1) := fo_dd DL_law_19 1 rfl
theorem dL_law_2090 : decode cL_law 2090 = .ok (.iload 5, 2) := fo_dd DL_law_19 2 rfl
theorem dL_law_2092 : decode cL_law 2092 = .ok (.iconst 1, 1) := fo_dd DL_law_19 3 rfl
theorem dL_law_2093 : decode cL_law 2093 = .ok (.iadd, 1) := fo_dd DL_law_19 4 rfl
theorem dL_law_2094 : decode cL_law 2094 = .ok (.iaload, 1) := fo_dd DL_law_19 5 rfl
theorem dL_law_2095 : decode cL_law 2095 = .ok (.aload_n 3, 1) := fo_dd DL_law_19 6 rfl
theorem dL_law_2096 : decode cL_law 2096 = .ok (.invokestatic 245, 3) := fo_dd DL_law_19 7 rfl
theorem dL_law_2099 : decode cL_law 2099 = .ok (.istore 6, 2) := fo_dd DL_law_19 8 rfl
theorem dL_law_2101 : decode cL_law 2101 = .ok (.aload_n 2, 1) := fo_dd DL_law_19 9 rfl
theorem dL_law_2102 : decode cL_law 2102 = .ok (.aload_n 0, 1) := fo_dd DL_law_19 10 rfl
theorem dL_law_2103 : decode cL_law 2103 = .ok (.iload 5, 2) := fo_dd DL_law_19 11 rfl
theorem dL_law_2105 : decode cL_law 2105 = .ok (.iconst 1, 1) := fo_dd DL_law_19 12 rfl
theorem dL_law_2106 : decode cL_law 2106 = .ok (.iadd, 1) := fo_dd DL_law_19 13 rfl
theorem dL_law_2107 : decode cL_law 2107 = .ok (.iaload, 1) := fo_dd DL_law_19 14 rfl
theorem dL_law_2108 : decode cL_law 2108 = .ok (.invokevirtual 247, 3) := fo_dd DL_law_19 15 rfl
theorem dL_law_2111 : decode cL_law 2111 = .ok (.istore 7, 2) := fo_dd DL_law_19 16 rfl
theorem dL_law_2113 : decode cL_law 2113 = .ok (.aload_n 2, 1) := fo_dd DL_law_19 17 rfl
theorem dL_law_2114 : decode cL_law 2114 = .ok (.invokevirtual 154, 3) := fo_dd DL_law_19 18 rfl
theorem dL_law_2117 : decode cL_law 2117 = .ok (.iload 6, 2) := fo_dd DL_law_19 19 rfl
theorem dL_law_2119 : decode cL_law 2119 = .ok (.if_icmp .eq 5, 3) := fo_dd DL_law_19 20 rfl
theorem dL_law_2122 : decode cL_law 2122 = .ok (.iconst 0, 1) := fo_dd DL_law_19 21 rfl
theorem dL_law_2123 : decode cL_law 2123 = .ok (.ireturn, 1) := fo_dd DL_law_19 22 rfl
theorem dL_law_2124 : decode cL_law 2124 = .ok (.iload 6, 2) := fo_dd DL_law_19 23 rfl
theorem dL_law_2126 : decode cL_law 2126 = .ok (.ifCond .ne 15, 3) := fo_dd DL_law_19 24 rfl
theorem dL_law_2129 : decode cL_law 2129 = .ok (.aload_n 3, 1) := fo_dd DL_law_19 25 rfl
theorem dL_law_2130 : decode cL_law 2130 = .ok (.iconst 0, 1) := fo_dd DL_law_19 26 rfl
theorem dL_law_2131 : decode cL_law 2131 = .ok (.laload, 1) := fo_dd DL_law_19 27 rfl
theorem dL_law_2132 : decode cL_law 2132 = .ok (.iload 7, 2) := fo_dd DL_law_19 28 rfl
theorem dL_law_2134 : decode cL_law 2134 = .ok (.i2l, 1) := fo_dd DL_law_19 29 rfl
theorem dL_law_2135 : decode cL_law 2135 = .ok (.lcmp, 1) := fo_dd DL_law_19 30 rfl
theorem dL_law_2136 : decode cL_law 2136 = .ok (.ifCond .eq 5, 3) := fo_dd DL_law_19 31 rfl
theorem dL_law_2139 : decode cL_law 2139 = .ok (.iconst 0, 1) := fo_dd DL_law_19 32 rfl
theorem dL_law_2140 : decode cL_law 2140 = .ok (.ireturn, 1) := fo_dd DL_law_19 33 rfl
theorem dL_law_2141 : decode cL_law 2141 = .ok (.goto 542, 3) := fo_dd DL_law_19 34 rfl
theorem dL_law_2144 : decode cL_law 2144 = .ok (.aload_n 1, 1) := fo_dd DL_law_19 35 rfl
theorem dL_law_2145 : decode cL_law 2145 = .ok (.aload_n 3, 1) := fo_dd DL_law_19 36 rfl
theorem dL_law_2146 : decode cL_law 2146 = .ok (.invokestatic 248, 3) := fo_dd DL_law_19 37 rfl
theorem dL_law_2149 : decode cL_law 2149 = .ok (.istore 6, 2) := fo_dd DL_law_19 38 rfl
theorem dL_law_2151 : decode cL_law 2151 = .ok (.aload_n 2, 1) := fo_dd DL_law_19 39 rfl
theorem dL_law_2152 : decode cL_law 2152 = .ok (.invokevirtual 251, 3) := fo_dd DL_law_19 40 rfl
theorem dL_law_2155 : decode cL_law 2155 = .ok (.istore 7, 2) := fo_dd DL_law_19 41 rfl
theorem dL_law_2157 : decode cL_law 2157 = .ok (.aload_n 2, 1) := fo_dd DL_law_19 42 rfl
theorem dL_law_2158 : decode cL_law 2158 = .ok (.invokevirtual 154, 3) := fo_dd DL_law_19 43 rfl
theorem dL_law_2161 : decode cL_law 2161 = .ok (.iload 6, 2) := fo_dd DL_law_19 44 rfl
theorem dL_law_2163 : decode cL_law 2163 = .ok (.if_icmp .eq 5, 3) := fo_dd DL_law_19 45 rfl
theorem dL_law_2166 : decode cL_law 2166 = .ok (.iconst 0, 1) := fo_dd DL_law_19 46 rfl
theorem dL_law_2167 : decode cL_law 2167 = .ok (.ireturn, 1) := fo_dd DL_law_19 47 rfl
theorem dL_law_2168 : decode cL_law 2168 = .ok (.iload 6, 2) := fo_dd DL_law_19 48 rfl
theorem dL_law_2170 : decode cL_law 2170 = .ok (.ifCond .ne 15, 3) := fo_dd DL_law_19 49 rfl
theorem dL_law_2173 : decode cL_law 2173 = .ok (.aload_n 3, 1) := fo_dd DL_law_19 50 rfl
theorem dL_law_2174 : decode cL_law 2174 = .ok (.iconst 0, 1) := fo_dd DL_law_19 51 rfl
theorem dL_law_2175 : decode cL_law 2175 = .ok (.laload, 1) := fo_dd DL_law_19 52 rfl
theorem dL_law_2176 : decode cL_law 2176 = .ok (.iload 7, 2) := fo_dd DL_law_19 53 rfl
theorem dL_law_2178 : decode cL_law 2178 = .ok (.i2l, 1) := fo_dd DL_law_19 54 rfl
theorem dL_law_2179 : decode cL_law 2179 = .ok (.lcmp, 1) := fo_dd DL_law_19 55 rfl
theorem dL_law_2180 : decode cL_law 2180 = .ok (.ifCond .eq 5, 3) := fo_dd DL_law_19 56 rfl
theorem dL_law_2183 : decode cL_law 2183 = .ok (.iconst 0, 1) := fo_dd DL_law_19 57 rfl
theorem dL_law_2184 : decode cL_law 2184 = .ok (.ireturn, 1) := fo_dd DL_law_19 58 rfl
theorem dL_law_2185 : decode cL_law 2185 = .ok (.goto 498, 3) := fo_dd DL_law_19 59 rfl
theorem dL_law_2188 : decode cL_law 2188 = .ok (.aload_n 1, 1) := fo_dd DL_law_19 60 rfl
theorem dL_law_2189 : decode cL_law 2189 = .ok (.aload 4, 2) := fo_dd DL_law_19 61 rfl
theorem dL_law_2191 : decode cL_law 2191 = .ok (.invokestatic 252, 3) := fo_dd DL_law_19 62 rfl
theorem dL_law_2194 : decode cL_law 2194 = .ok (.istore 6, 2) := fo_dd DL_law_19 63 rfl
theorem DL_law_20 : fo_dl cL_law [(2196, .aload_n 2, 1), (2197, .invokevirtual 255, 3), (2200, .fstore 7, 2), (2202, .aload_n 2, 1), (2203, .invokevirtual 154, 3), (2206, .iload 6, 2), (2208, .if_icmp .eq 5, 3), (2211, .iconst 0, 1), (2212, .ireturn, 1), (2213, .iload 6, 2), (2215, .ifCond .ne 36, 3), (2218, .aload 4, 2), (2220, .iconst 0, 1), (2221, .daload, 1), (2222, .fload 7, 2), (2224, .f2d, 1), (2225, .dcmp .l, 1), (2226, .ifCond .eq 25, 3), (2229, .aload 4, 2), (2231, .iconst 0, 1), (2232, .daload, 1), (2233, .aload 4, 2), (2235, .iconst 0, 1), (2236, .daload, 1), (2237, .dcmp .l, 1), (2238, .ifCond .eq 11, 3), (2241, .fload 7, 2), (2243, .fload 7, 2), (2245, .fcmp .l, 1), (2246, .ifCond .ne 5, 3), (2249, .iconst 0, 1), (2250, .ireturn, 1), (2251, .goto 432, 3), (2254, .aload_n 1, 1), (2255, .invokevirtual 256, 3), (2258, .aload_n 2, 1), (2259, .invokevirtual 260, 3), (2262, .if_icmp .eq 421, 3), (2265, .iconst 0, 1), (2266, .ireturn, 1), (2267, .aload_n 1, 1), (2268, .aload_n 0, 1), (2269, .iload 5, 2), (2271, .iconst 1, 1), (2272, .iadd, 1), (2273, .iaload, 1), (2274, .aload_n 3, 1), (2275, .invokestatic 261, 3), (2278, .istore 6, 2), (2280, .aload_n 2, 1), (2281, .aload_n 0, 1), (2282, .iload 5, 2), (2284, .iconst 1, 1), (2285, .iadd, 1), (2286, .iaload, 1), (2287, .invokevirtual 263, 3), (2290, .istore 7, 2), (2292, .aload_n 2, 1), (2293, .invokevirtual 154, 3), (2296, .iload 6, 2), (2298, .if_icmp .eq 5, 3), (2301, .iconst 0, 1), (2302, .ireturn, 1), (2303, .iload 6, 2)] := by decide +kernel
theorem dL_law_2196 : decode cL_law 2196 = .ok (.aload_n 2, 1) := fo_dd DL_law_20 0 rfl
theorem dL_law_2197 : decode cL_law 2197 = .ok (.invokevirtual 255, 3) := fo_dd DL_law_20 1 rfl
theorem dL_law_2200 : decode cL_law 2200 = .ok (.fstore 7, 2) := fo_dd DL_law_20 2 rfl
theorem dL_law_2202 : decode cL_law 2202 = .ok (.aload_n 2, 1) := fo_dd DL_law_20 3 rfl
theorem dL_law_2203 : decode cL_law 2203 = .ok (.invokevirtual 154, 3) := fo_dd DL_law_20 4 rfl
theorem dL_law_2206 : decode cL_law 2206 = .ok (.iload 6, 2) := fo_dd DL_law_20 5 rfl
theorem dL_law_2208 : decode cL_law 2208 = .ok (.if_icmp .eq 5, 3) := fo_dd DL_law_20 6 rfl
theorem dL_law_2211 : decode cL_law 2211 = .ok (.iconst 0, 1) := fo_dd DL_law_20 7 rfl
theorem dL_law_2212 : decode cL_law 2212 = .ok (.ireturn, 1) := fo_dd DL_law_20 8 rfl
theorem dL_law_2213 : decode cL_law 2213 = .ok (.iload 6, 2) := fo_dd DL_law_20 9 rfl
theorem dL_law_2215 : decode cL_law 2215 = .ok (.ifCond .ne 36, 3) := fo_dd DL_law_20 10 rfl
theorem dL_law_2218 : decode cL_law 2218 = .ok (.aload 4, 2) := fo_dd DL_law_20 11 rfl
theorem dL_law_2220 : decode cL_law 2220 = .ok (.iconst 0, 1) := fo_dd DL_law_20 12 rfl
theorem dL_law_2221 : decode cL_law 2221 = .ok (.daload, 1) := fo_dd DL_law_20 13 rfl
theorem dL_law_2222 : decode cL_law 2222 = .ok (.fload 7, 2) := fo_dd DL_law_20 14 rfl
theorem dL_law_2224 : decode cL_law 2224 = .ok (.f2d, 1) := fo_dd DL_law_20 15 rfl
theorem dL_law_2225 : decode cL_law 2225 = .ok (.dcmp .l, 1) := fo_dd DL_law_20 16 rfl
theorem dL_law_2226 : decode cL_law 2226 = .ok (.ifCond .eq 25, 3) := fo_dd DL_law_20 17 rfl
theorem dL_law_2229 : decode cL_law 2229 = .ok (.aload 4, 2) := fo_dd DL_law_20 18 rfl
theorem dL_law_2231 : decode cL_law 2231 = .ok (.iconst 0, 1) := fo_dd DL_law_20 19 rfl
theorem dL_law_2232 : decode cL_law 2232 = .ok (.daload, 1) := fo_dd DL_law_20 20 rfl
theorem dL_law_2233 : decode cL_law 2233 = .ok (.aload 4, 2) := fo_dd DL_law_20 21 rfl
theorem dL_law_2235 : decode cL_law 2235 = .ok (.iconst 0, 1) := fo_dd DL_law_20 22 rfl
theorem dL_law_2236 : decode cL_law 2236 = .ok (.daload, 1) := fo_dd DL_law_20 23 rfl
theorem dL_law_2237 : decode cL_law 2237 = .ok (.dcmp .l, 1) := fo_dd DL_law_20 24 rfl
theorem dL_law_2238 : decode cL_law 2238 = .ok (.ifCond .eq 11, 3) := fo_dd DL_law_20 25 rfl
theorem dL_law_2241 : decode cL_law 2241 = .ok (.fload 7, 2) := fo_dd DL_law_20 26 rfl
theorem dL_law_2243 : decode cL_law 2243 = .ok (.fload 7, 2) := fo_dd DL_law_20 27 rfl
theorem dL_law_2245 : decode cL_law 2245 = .ok (.fcmp .l, 1) := fo_dd DL_law_20 28 rfl
theorem dL_law_2246 : decode cL_law 2246 = .ok (.ifCond .ne 5, 3) := fo_dd DL_law_20 29 rfl
theorem dL_law_2249 : decode cL_law 2249 = .ok (.iconst 0, 1) := fo_dd DL_law_20 30 rfl
theorem dL_law_2250 : decode cL_law 2250 = .ok (.ireturn, 1) := fo_dd DL_law_20 31 rfl
theorem dL_law_2251 : decode cL_law 2251 = .ok (.goto 432, 3) := fo_dd DL_law_20 32 rfl
theorem dL_law_2254 : decode cL_law 2254 = .ok (.aload_n 1, 1) := fo_dd DL_law_20 33 rfl
theorem dL_law_2255 : decode cL_law 2255 = .ok (.invokevirtual 256, 3) := fo_dd DL_law_20 34 rfl
theorem dL_law_2258 : decode cL_law 2258 = .ok (.aload_n 2, 1) := fo_dd DL_law_20 35 rfl
theorem dL_law_2259 : decode cL_law 2259 = .ok (.invokevirtual 260, 3) := fo_dd DL_law_20 36 rfl
theorem dL_law_2262 : decode cL_law 2262 = .ok (.if_icmp .eq 421, 3) := fo_dd DL_law_20 37 rfl
theorem dL_law_2265 : decode cL_law 2265 = .ok (.iconst 0, 1) := fo_dd DL_law_20 38 rfl
theorem dL_law_2266 : decode cL_law 2266 = .ok (.ireturn, 1) := fo_dd DL_law_20 39 rfl
theorem dL_law_2267 : decode cL_law 2267 = .ok (.aload_n 1, 1) := fo_dd DL_law_20 40 rfl
theorem dL_law_2268 : decode cL_law 2268 = .ok (.aload_n 0, 1) := fo_dd DL_law_20 41 rfl
theorem dL_law_2269 : decode cL_law 2269 = .ok (.iload 5, 2) := fo_dd DL_law_20 42 rfl
theorem dL_law_2271 : decode cL_law 2271 = .ok (.iconst 1, 1) := fo_dd DL_law_20 43 rfl
theorem dL_law_2272 : decode cL_law 2272 = .ok (.iadd, 1) := fo_dd DL_law_20 44 rfl
theorem dL_law_2273 : decode cL_law 2273 = .ok (.iaload, 1) := fo_dd DL_law_20 45 rfl
theorem dL_law_2274 : decode cL_law 2274 = .ok (.aload_n 3, 1) := fo_dd DL_law_20 46 rfl
theorem dL_law_2275 : decode cL_law 2275 = .ok (.invokestatic 261, 3) := fo_dd DL_law_20 47 rfl
theorem dL_law_2278 : decode cL_law 2278 = .ok (.istore 6, 2) := fo_dd DL_law_20 48 rfl
theorem dL_law_2280 : decode cL_law 2280 = .ok (.aload_n 2, 1) := fo_dd DL_law_20 49 rfl
theorem dL_law_2281 : decode cL_law 2281 = .ok (.aload_n 0, 1) := fo_dd DL_law_20 50 rfl
theorem dL_law_2282 : decode cL_law 2282 = .ok (.iload 5, 2) := fo_dd DL_law_20 51 rfl
theorem dL_law_2284 : decode cL_law 2284 = .ok (.iconst 1, 1) := fo_dd DL_law_20 52 rfl
theorem dL_law_2285 : decode cL_law 2285 = .ok (.iadd, 1) := fo_dd DL_law_20 53 rfl
theorem dL_law_2286 : decode cL_law 2286 = .ok (.iaload, 1) := fo_dd DL_law_20 54 rfl
theorem dL_law_2287 : decode cL_law 2287 = .ok (.invokevirtual 263, 3) := fo_dd DL_law_20 55 rfl
theorem dL_law_2290 : decode cL_law 2290 = .ok (.istore 7, 2) := fo_dd DL_law_20 56 rfl
theorem dL_law_2292 : decode cL_law 2292 = .ok (.aload_n 2, 1) := fo_dd DL_law_20 57 rfl
theorem dL_law_2293 : decode cL_law 2293 = .ok (.invokevirtual 154, 3) := fo_dd DL_law_20 58 rfl
theorem dL_law_2296 : decode cL_law 2296 = .ok (.iload 6, 2) := fo_dd DL_law_20 59 rfl
theorem dL_law_2298 : decode cL_law 2298 = .ok (.if_icmp .eq 5, 3) := fo_dd DL_law_20 60 rfl
theorem dL_law_2301 : decode cL_law 2301 = .ok (.iconst 0, 1) := fo_dd DL_law_20 61 rfl
theorem dL_law_2302 : decode cL_law 2302 = .ok (.ireturn, 1) := fo_dd DL_law_20 62 rfl
theorem dL_law_2303 : decode cL_law 2303 = .ok (.iload 6, 2) := fo_dd DL_law_20 63 rfl
theorem DL_law_21 : fo_dl cL_law [(2305, .ifCond .ne 15, 3), (2308, .aload_n 3, 1), (2309, .iconst 0, 1), (2310, .laload, 1), (2311, .iload 7, 2), (2313, .i2l, 1), (2314, .lcmp, 1), (2315, .ifCond .eq 5, 3), (2318, .iconst 0, 1), (2319, .ireturn, 1), (2320, .goto 363, 3), (2323, .aload_n 1, 1), (2324, .invokevirtual 264, 3), (2327, .aload_n 2, 1), (2328, .invokevirtual 267, 3), (2331, .if_icmp .eq 352, 3), (2334, .iconst 0, 1), (2335, .ireturn, 1), (2336, .aload_n 1, 1), (2337, .aload_n 0, 1), (2338, .iload 5, 2), (2340, .iconst 1, 1), (2341, .iadd, 1), (2342, .iaload, 1), (2343, .aload_n 3, 1), (2344, .invokestatic 268, 3), (2347, .istore 6, 2), (2349, .aload_n 2, 1), (2350, .aload_n 0, 1), (2351, .iload 5, 2), (2353, .iconst 1, 1), (2354, .iadd, 1), (2355, .iaload, 1), (2356, .invokevirtual 270, 3), (2359, .istore 7, 2), (2361, .aload_n 2, 1), (2362, .invokevirtual 154, 3), (2365, .iload 6, 2), (2367, .if_icmp .eq 5, 3), (2370, .iconst 0, 1), (2371, .ireturn, 1), (2372, .iload 6, 2), (2374, .ifCond .ne 15, 3), (2377, .aload_n 3, 1), (2378, .iconst 0, 1), (2379, .laload, 1), (2380, .iload 7, 2), (2382, .i2l, 1), (2383, .lcmp, 1), (2384, .ifCond .eq 5, 3), (2387, .iconst 0, 1), (2388, .ireturn, 1), (2389, .goto 294, 3), (2392, .aload_n 1, 1), (2393, .aload_n 0, 1), (2394, .iload 5, 2), (2396, .iconst 1, 1), (2397, .iadd, 1), (2398, .iaload, 1), (2399, .i2c, 1), (2400, .aload_n 3, 1), (2401, .invokestatic 271, 3), (2404, .istore 6, 2), (2406, .aload_n 2, 1)] := by decide +kernel
theorem dL_law_2305 : decode cL_law 2305 = .ok (.ifCond .ne 15, 3) := fo_dd DL_law_21 0 rfl
theorem dL_law_2308 : decode cL_law 2308 = .ok (.aload_n 3, 1) := fo_dd DL_law_21 1 rfl
theorem dL_law_2309 : decode cL_law 2309 = .ok (.iconst 0, 1) := fo_dd DL_law_21 2 rfl
theorem dL_law_2310 : decode cL_law 2310 = .ok (.laload, 1) := fo_dd DL_law_21 3 rfl
theorem dL_law_2311 : decode cL_law 2311 = .ok (.iload 7, 2) := fo_dd DL_law_21 4 rfl
theorem dL_law_2313 : decode cL_law 2313 = .ok (.i2l, 1) := fo_dd DL_law_21 5 rfl
theorem dL_law_2314 : decode cL_law 2314 = .ok (.lcmp, 1) := fo_dd DL_law_21 6 rfl
theorem dL_law_2315 : decode cL_law 2315 = .ok (.ifCond .eq 5, 3) := fo_dd DL_law_21 7 rfl
theorem dL_law_2318 : decode cL_law 2318 = .ok (.iconst 0, 1) := fo_dd DL_law_21 8 rfl
theorem dL_law_2319 : decode cL_law 2319 = .ok (.ireturn, 1) := fo_dd DL_law_21 9 rfl
theorem dL_law_2320 : decode cL_law 2320 = .ok (.goto 363, 3) := fo_dd DL_law_21 10 rfl
theorem dL_law_2323 : decode cL_law 2323 = .ok (.aload_n 1, 1) := fo_dd DL_law_21 11 rfl
theorem dL_law_2324 : decode cL_law 2324 = .ok (.invokevirtual 264, 3) := fo_dd DL_law_21 12 rfl
theorem dL_law_2327 : decode cL_law 2327 = .ok (.aload_n 2, 1) := fo_dd DL_law_21 13 rfl
theorem dL_law_2328 : decode cL_law 2328 = .ok (.invokevirtual 267, 3) := fo_dd DL_law_21 14 rfl
theorem dL_law_2331 : decode cL_law 2331 = .ok (.if_icmp .eq 352, 3) := fo_dd DL_law_21 15 rfl
theorem dL_law_2334 : decode cL_law 2334 = .ok (.iconst 0, 1) := fo_dd DL_law_21 16 rfl
theorem dL_law_2335 : decode cL_law 2335 = .ok (.ireturn, 1) := fo_dd DL_law_21 17 rfl
theorem dL_law_2336 : decode cL_law 2336 = .ok (.aload_n 1, 1) := fo_dd DL_law_21 18 rfl
theorem dL_law_2337 : decode cL_law 2337 = .ok (.aload_n 0, 1) := fo_dd DL_law_21 19 rfl
theorem dL_law_2338 : decode cL_law 2338 = .ok (.iload 5, 2) := fo_dd DL_law_21 20 rfl
theorem dL_law_2340 : decode cL_law 2340 = .ok (.iconst 1, 1) := fo_dd DL_law_21 21 rfl
theorem dL_law_2341 : decode cL_law 2341 = .ok (.iadd, 1) := fo_dd DL_law_21 22 rfl
theorem dL_law_2342 : decode cL_law 2342 = .ok (.iaload, 1) := fo_dd DL_law_21 23 rfl
theorem dL_law_2343 : decode cL_law 2343 = .ok (.aload_n 3, 1) := fo_dd DL_law_21 24 rfl
theorem dL_law_2344 : decode cL_law 2344 = .ok (.invokestatic 268, 3) := fo_dd DL_law_21 25 rfl
theorem dL_law_2347 : decode cL_law 2347 = .ok (.istore 6, 2) := fo_dd DL_law_21 26 rfl
theorem dL_law_2349 : decode cL_law 2349 = .ok (.aload_n 2, 1) := fo_dd DL_law_21 27 rfl
theorem dL_law_2350 : decode cL_law 2350 = .ok (.aload_n 0, 1) := fo_dd DL_law_21 28 rfl
theorem dL_law_2351 : decode cL_law 2351 = .ok (.iload 5, 2) := fo_dd DL_law_21 29 rfl
theorem dL_law_2353 : decode cL_law 2353 = .ok (.iconst 1, 1) := fo_dd DL_law_21 30 rfl
theorem dL_law_2354 : decode cL_law 2354 = .ok (.iadd, 1) := fo_dd DL_law_21 31 rfl
theorem dL_law_2355 : decode cL_law 2355 = .ok (.iaload, 1) := fo_dd DL_law_21 32 rfl
theorem dL_law_2356 : decode cL_law 2356 = .ok (.invokevirtual 270, 3) := fo_dd DL_law_21 33 rfl
theorem dL_law_2359 : decode cL_law 2359 = .ok (.istore 7, 2) := fo_dd DL_law_21 34 rfl
theorem dL_law_2361 : decode cL_law 2361 = .ok (.aload_n 2, 1) := fo_dd DL_law_21 35 rfl
theorem dL_law_2362 : decode cL_law 2362 = .ok (.invokevirtual 154, 3) := fo_dd DL_law_21 36 rfl
theorem dL_law_2365 : decode cL_law 2365 = .ok (.iload 6, 2) := fo_dd DL_law_21 37 rfl
theorem dL_law_2367 : decode cL_law 2367 = .ok (.if_icmp .eq 5, 3) := fo_dd DL_law_21 38 rfl
theorem dL_law_2370 : decode cL_law 2370 = .ok (.iconst 0, 1) := fo_dd DL_law_21 39 rfl
theorem dL_law_2371 : decode cL_law 2371 = .ok (.ireturn, 1) := fo_dd DL_law_21 40 rfl
theorem dL_law_2372 : decode cL_law 2372 = .ok (.iload 6, 2) := fo_dd DL_law_21 41 rfl
theorem dL_law_2374 : decode cL_law 2374 = .ok (.ifCond .ne 15, 3) := fo_dd DL_law_21 42 rfl
theorem dL_law_2377 : decode cL_law 2377 = .ok (.aload_n 3, 1) := fo_dd DL_law_21 43 rfl
theorem dL_law_2378 : decode cL_law 2378 = .ok (.iconst 0, 1) := fo_dd DL_law_21 44 rfl
theorem dL_law_2379 : decode cL_law 2379 = .ok (.laload, 1) := fo_dd DL_law_21 45 rfl
theorem dL_law_2380 : decode cL_law 2380 = .ok (.iload 7, 2) := fo_dd DL_law_21 46 rfl
theorem dL_law_2382 : decode cL_law 2382 = .ok (.i2l, 1) := fo_dd DL_law_21 47 rfl
theorem dL_law_2383 : decode cL_law 2383 = .ok (.lcmp, 1) := fo_dd DL_law_21 48 rfl
theorem dL_law_2384 : decode cL_law 2384 = .ok (.ifCond .eq 5, 3) := fo_dd DL_law_21 49 rfl
theorem dL_law_2387 : decode cL_law 2387 = .ok (.iconst 0, 1) := fo_dd DL_law_21 50 rfl
theorem dL_law_2388 : decode cL_law 2388 = .ok (.ireturn, 1) := fo_dd DL_law_21 51 rfl
theorem dL_law_2389 : decode cL_law 2389 = .ok (.goto 294, 3) := fo_dd DL_law_21 52 rfl
theorem dL_law_2392 : decode cL_law 2392 = .ok (.aload_n 1, 1) := fo_dd DL_law_21 53 rfl
theorem dL_law_2393 : decode cL_law 2393 = .ok (.aload_n 0, 1) := fo_dd DL_law_21 54 rfl
theorem dL_law_2394 : decode cL_law 2394 = .ok (.iload 5, 2) := fo_dd DL_law_21 55 rfl
theorem dL_law_2396 : decode cL_law 2396 = .ok (.iconst 1, 1) := fo_dd DL_law_21 56 rfl
theorem dL_law_2397 : decode cL_law 2397 = .ok (.iadd, 1) := fo_dd DL_law_21 57 rfl
theorem dL_law_2398 : decode cL_law 2398 = .ok (.iaload, 1) := fo_dd DL_law_21 58 rfl
theorem dL_law_2399 : decode cL_law 2399 = .ok (.i2c, 1) := fo_dd DL_law_21 59 rfl
theorem dL_law_2400 : decode cL_law 2400 = .ok (.aload_n 3, 1) := fo_dd DL_law_21 60 rfl
theorem dL_law_2401 : decode cL_law 2401 = .ok (.invokestatic 271, 3) := fo_dd DL_law_21 61 rfl
theorem dL_law_2404 : decode cL_law 2404 = .ok (.istore 6, 2) := fo_dd DL_law_21 62 rfl
theorem dL_law_2406 : decode cL_law 2406 = .ok (.aload_n 2, 1) := fo_dd DL_law_21 63 rfl
theorem DL_law_22 : fo_dl cL_law [(2407, .aload_n 0, 1), (2408, .iload 5, 2), (2410, .iconst 1, 1), (2411, .iadd, 1), (2412, .iaload, 1), (2413, .i2c, 1), (2414, .invokevirtual 274, 3), (2417, .istore 7, 2), (2419, .aload_n 2, 1), (2420, .invokevirtual 154, 3), (2423, .iload 6, 2), (2425, .if_icmp .eq 5, 3), (2428, .iconst 0, 1), (2429, .ireturn, 1), (2430, .iload 6, 2), (2432, .ifCond .ne 15, 3), (2435, .aload_n 3, 1), (2436, .iconst 0, 1), (2437, .laload, 1), (2438, .iload 7, 2), (2440, .i2l, 1), (2441, .lcmp, 1), (2442, .ifCond .eq 5, 3), (2445, .iconst 0, 1), (2446, .ireturn, 1), (2447, .goto 236, 3), (2450, .aload_n 1, 1), (2451, .aload_n 3, 1), (2452, .invokestatic 275, 3), (2455, .istore 6, 2), (2457, .aload_n 2, 1), (2458, .invokevirtual 277, 3), (2461, .istore 7, 2), (2463, .aload_n 2, 1), (2464, .invokevirtual 154, 3), (2467, .iload 6, 2), (2469, .if_icmp .eq 5, 3), (2472, .iconst 0, 1), (2473, .ireturn, 1), (2474, .iload 6, 2), (2476, .ifCond .ne 15, 3), (2479, .aload_n 3, 1), (2480, .iconst 0, 1), (2481, .laload, 1), (2482, .iload 7, 2), (2484, .i2l, 1), (2485, .lcmp, 1), (2486, .ifCond .eq 5, 3), (2489, .iconst 0, 1), (2490, .ireturn, 1), (2491, .goto 192, 3), (2494, .aload_n 1, 1), (2495, .aload_n 3, 1), (2496, .invokestatic 278, 3), (2499, .istore 6, 2), (2501, .aload_n 2, 1), (2502, .invokevirtual 280, 3), (2505, .istore 7, 2), (2507, .aload_n 2, 1), (2508, .invokevirtual 154, 3), (2511, .iload 6, 2), (2513, .if_icmp .eq 5, 3), (2516, .iconst 0, 1), (2517, .ireturn, 1)] := by decide +kernel
theorem dL_law_2407 : decode cL_law 2407 = .ok (.aload_n 0, 1) := fo_dd DL_law_22 0 rfl
theorem dL_law_2408 : decode cL_law 2408 = .ok (.iload 5, 2) := fo_dd DL_law_22 1 rfl
theorem dL_law_2410 : decode cL_law 2410 = .ok (.iconst 1, 1) := fo_dd DL_law_22 2 rfl
theorem dL_law_2411 : decode cL_law 2411 = .ok (.iadd, 1) := fo_dd DL_law_22 3 rfl
theorem dL_law_2412 : decode cL_law 2412 = .ok (.iaload, 1) := fo_dd DL_law_22 4 rfl
theorem dL_law_2413 : decode cL_law 2413 = .ok (.i2c, 1) := fo_dd DL_law_22 5 rfl
theorem dL_law_2414 : decode cL_law 2414 = .ok (.invokevirtual 274, 3) := fo_dd DL_law_22 6 rfl
theorem dL_law_2417 : decode cL_law 2417 = .ok (.istore 7, 2) := fo_dd DL_law_22 7 rfl
theorem dL_law_2419 : decode cL_law 2419 = .ok (.aload_n 2, 1) := fo_dd DL_law_22 8 rfl
theorem dL_law_2420 : decode cL_law 2420 = .ok (.invokevirtual 154, 3) := fo_dd DL_law_22 9 rfl
theorem dL_law_2423 : decode cL_law 2423 = .ok (.iload 6, 2) := fo_dd DL_law_22 10 rfl
theorem dL_law_2425 : decode cL_law 2425 = .ok (.if_icmp .eq 5, 3) := fo_dd DL_law_22 11 rfl
theorem dL_law_2428 : decode cL_law 2428 = .ok (.iconst 0, 1) := fo_dd DL_law_22 12 rfl
theorem dL_law_2429 : decode cL_law 2429 = .ok (.ireturn, 1) := fo_dd DL_law_22 13 rfl
theorem dL_law_2430 : decode cL_law 2430 = .ok (.iload 6, 2) := fo_dd DL_law_22 14 rfl
theorem dL_law_2432 : decode cL_law 2432 = .ok (.ifCond .ne 15, 3) := fo_dd DL_law_22 15 rfl
theorem dL_law_2435 : decode cL_law 2435 = .ok (.aload_n 3, 1) := fo_dd DL_law_22 16 rfl
theorem dL_law_2436 : decode cL_law 2436 = .ok (.iconst 0, 1) := fo_dd DL_law_22 17 rfl
theorem dL_law_2437 : decode cL_law 2437 = .ok (.laload, 1) := fo_dd DL_law_22 18 rfl
theorem dL_law_2438 : decode cL_law 2438 = .ok (.iload 7, 2) := fo_dd DL_law_22 19 rfl
theorem dL_law_2440 : decode cL_law 2440 = .ok (.i2l, 1) := fo_dd DL_law_22 20 rfl
theorem dL_law_2441 : decode cL_law 2441 = .ok (.lcmp, 1) := fo_dd DL_law_22 21 rfl
theorem dL_law_2442 : decode cL_law 2442 = .ok (.ifCond .eq 5, 3) := fo_dd DL_law_22 22 rfl
theorem dL_law_2445 : decode cL_law 2445 = .ok (.iconst 0, 1) := fo_dd DL_law_22 23 rfl
theorem dL_law_2446 : decode cL_law 2446 = .ok (.ireturn, 1) := fo_dd DL_law_22 24 rfl
theorem dL_law_2447 : decode cL_law 2447 = .ok (.goto 236, 3) := fo_dd DL_law_22 25 rfl
theorem dL_law_2450 : decode cL_law 2450 = .ok (.aload_n 1, 1) := fo_dd DL_law_22 26 rfl
theorem dL_law_2451 : decode cL_law 2451 = .ok (.aload_n 3, 1) := fo_dd DL_law_22 27 rfl
theorem dL_law_2452 : decode cL_law 2452 = .ok (.invokestatic 275, 3) := fo_dd DL_law_22 28 rfl
theorem dL_law_2455 : decode cL_law 2455 = .ok (.istore 6, 2) := fo_dd DL_law_22 29 rfl
theorem dL_law_2457 : decode cL_law 2457 = .ok (.aload_n 2, 1) := fo_dd DL_law_22 30 rfl
theorem dL_law_2458 : decode cL_law 2458 = .ok (.invokevirtual 277, 3) := fo_dd DL_law_22 31 rfl
theorem dL_law_2461 : decode cL_law 2461 = .ok (.istore 7, 2) := fo_dd DL_law_22 32 rfl
theorem dL_law_2463 : decode cL_law 2463 = .ok (.aload_n 2, 1) := fo_dd DL_law_22 33 rfl
theorem dL_law_2464 : decode cL_law 2464 = .ok (.invokevirtual 154, 3) := fo_dd DL_law_22 34 rfl
theorem dL_law_2467 : decode cL_law 2467 = .ok (.iload 6, 2) := fo_dd DL_law_22 35 rfl
theorem dL_law_2469 : decode cL_law 2469 = .ok (.if_icmp .eq 5, 3) := fo_dd DL_law_22 36 rfl
theorem dL_law_2472 : decode cL_law 2472 = .ok (.iconst 0, 1) := fo_dd DL_law_22 37 rfl
theorem dL_law_2473 : decode cL_law 2473 = .ok (.ireturn, 1) := fo_dd DL_law_22 38 rfl
theorem dL_law_2474 : decode cL_law 2474 = .ok (.iload 6, 2) := fo_dd DL_law_22 39 rfl
theorem dL_law_2476 : decode cL_law 2476 = .ok (.ifCond .ne 15, 3) := fo_dd DL_law_22 40 rfl
theorem dL_law_2479 : decode cL_law 2479 = .ok (.aload_n 3, 1) := fo_dd DL_law_22 41 rfl
theorem dL_law_2480 : decode cL_law 2480 = .ok (.iconst 0, 1) := fo_dd DL_law_22 42 rfl
theorem dL_law_2481 : decode cL_law 2481 = .ok (.laload, 1) := fo_dd DL_law_22 43 rfl
theorem dL_law_2482 : decode cL_law 2482 = .ok (.iload 7, 2) := fo_dd DL_law_22 44 rfl
theorem dL_law_2484 : decode cL_law 2484 = .ok (.i2l, 1) := fo_dd DL_law_22 45 rfl
theorem dL_law_2485 : decode cL_law 2485 = .ok (.lcmp, 1) := fo_dd DL_law_22 46 rfl
theorem dL_law_2486 : decode cL_law 2486 = .ok (.ifCond .eq 5, 3) := fo_dd DL_law_22 47 rfl
theorem dL_law_2489 : decode cL_law 2489 = .ok (.iconst 0, 1) := fo_dd DL_law_22 48 rfl
theorem dL_law_2490 : decode cL_law 2490 = .ok (.ireturn, 1) := fo_dd DL_law_22 49 rfl
theorem dL_law_2491 : decode cL_law 2491 = .ok (.goto 192, 3) := fo_dd DL_law_22 50 rfl
theorem dL_law_2494 : decode cL_law 2494 = .ok (.aload_n 1, 1) := fo_dd DL_law_22 51 rfl
theorem dL_law_2495 : decode cL_law 2495 = .ok (.aload_n 3, 1) := fo_dd DL_law_22 52 rfl
theorem dL_law_2496 : decode cL_law 2496 = .ok (.invokestatic 278, 3) := fo_dd DL_law_22 53 rfl
theorem dL_law_2499 : decode cL_law 2499 = .ok (.istore 6, 2) := fo_dd DL_law_22 54 rfl
theorem dL_law_2501 : decode cL_law 2501 = .ok (.aload_n 2, 1) := fo_dd DL_law_22 55 rfl
theorem dL_law_2502 : decode cL_law 2502 = .ok (.invokevirtual 280, 3) := fo_dd DL_law_22 56 rfl
theorem dL_law_2505 : decode cL_law 2505 = .ok (.istore 7, 2) := fo_dd DL_law_22 57 rfl
theorem dL_law_2507 : decode cL_law 2507 = .ok (.aload_n 2, 1) := fo_dd DL_law_22 58 rfl
theorem dL_law_2508 : decode cL_law 2508 = .ok (.invokevirtual 154, 3) := fo_dd DL_law_22 59 rfl
theorem dL_law_2511 : decode cL_law 2511 = .ok (.iload 6, 2) := fo_dd DL_law_22 60 rfl
theorem dL_law_2513 : decode cL_law 2513 = .ok (.if_icmp .eq 5, 3) := fo_dd DL_law_22 61 rfl
theorem dL_law_2516 : decode cL_law 2516 = .ok (.iconst 0, 1) := fo_dd DL_law_22 62 rfl
theorem dL_law_2517 : decode cL_law 2517 = .ok (.ireturn, 1) := fo_dd DL_law_22 63 rfl
theorem DL_law_23 : fo_dl cL_law [(2518, .iload 6, 2), (2520, .ifCond .ne 15, 3), (2523, .aload_n 3, 1), (2524, .iconst 0, 1), (2525, .laload, 1), (2526, .iload 7, 2), (2528, .i2l, 1), (2529, .lcmp, 1), (2530, .ifCond .eq 5, 3), (2533, .iconst 0, 1), (2534, .ireturn, 1), (2535, .goto 148, 3), (2538, .aload_n 1, 1), (2539, .aload_n 3, 1), (2540, .invokestatic 281, 3), (2543, .istore 6, 2), (2545, .aload_n 2, 1), (2546, .invokevirtual 283, 3), (2549, .istore 7, 2), (2551, .aload_n 2, 1), (2552, .invokevirtual 154, 3), (2555, .iload 6, 2), (2557, .if_icmp .eq 5, 3), (2560, .iconst 0, 1), (2561, .ireturn, 1), (2562, .iload 6, 2), (2564, .ifCond .ne 15, 3), (2567, .aload_n 3, 1), (2568, .iconst 0, 1), (2569, .laload, 1), (2570, .iload 7, 2), (2572, .i2l, 1), (2573, .lcmp, 1), (2574, .ifCond .eq 5, 3), (2577, .iconst 0, 1), (2578, .ireturn, 1), (2579, .goto 104, 3), (2582, .aload_n 1, 1), (2583, .aload_n 3, 1), (2584, .invokestatic 284, 3), (2587, .istore 6, 2), (2589, .aload_n 2, 1), (2590, .invokevirtual 286, 3), (2593, .istore 7, 2), (2595, .aload_n 2, 1), (2596, .invokevirtual 154, 3), (2599, .iload 6, 2), (2601, .if_icmp .eq 5, 3), (2604, .iconst 0, 1), (2605, .ireturn, 1), (2606, .iload 6, 2), (2608, .ifCond .ne 15, 3), (2611, .aload_n 3, 1), (2612, .iconst 0, 1), (2613, .laload, 1), (2614, .iload 7, 2), (2616, .i2l, 1), (2617, .lcmp, 1), (2618, .ifCond .eq 5, 3), (2621, .iconst 0, 1), (2622, .ireturn, 1), (2623, .goto 60, 3), (2626, .aload_n 1, 1), (2627, .invokevirtual 287, 3)] := by decide +kernel
theorem dL_law_2518 : decode cL_law 2518 = .ok (.iload 6, 2) := fo_dd DL_law_23 0 rfl
theorem dL_law_2520 : decode cL_law 2520 = .ok (.ifCond .ne 15, 3) := fo_dd DL_law_23 1 rfl
theorem dL_law_2523 : decode cL_law 2523 = .ok (.aload_n 3, 1) := fo_dd DL_law_23 2 rfl
theorem dL_law_2524 : decode cL_law 2524 = .ok (.iconst 0, 1) := fo_dd DL_law_23 3 rfl
theorem dL_law_2525 : decode cL_law 2525 = .ok (.laload, 1) := fo_dd DL_law_23 4 rfl
theorem dL_law_2526 : decode cL_law 2526 = .ok (.iload 7, 2) := fo_dd DL_law_23 5 rfl
theorem dL_law_2528 : decode cL_law 2528 = .ok (.i2l, 1) := fo_dd DL_law_23 6 rfl
theorem dL_law_2529 : decode cL_law 2529 = .ok (.lcmp, 1) := fo_dd DL_law_23 7 rfl
theorem dL_law_2530 : decode cL_law 2530 = .ok (.ifCond .eq 5, 3) := fo_dd DL_law_23 8 rfl
theorem dL_law_2533 : decode cL_law 2533 = .ok (.iconst 0, 1) := fo_dd DL_law_23 9 rfl
theorem dL_law_2534 : decode cL_law 2534 = .ok (.ireturn, 1) := fo_dd DL_law_23 10 rfl
theorem dL_law_2535 : decode cL_law 2535 = .ok (.goto 148, 3) := fo_dd DL_law_23 11 rfl
theorem dL_law_2538 : decode cL_law 2538 = .ok (.aload_n 1, 1) := fo_dd DL_law_23 12 rfl
theorem dL_law_2539 : decode cL_law 2539 = .ok (.aload_n 3, 1) := fo_dd DL_law_23 13 rfl
theorem dL_law_2540 : decode cL_law 2540 = .ok (.invokestatic 281, 3) := fo_dd DL_law_23 14 rfl
theorem dL_law_2543 : decode cL_law 2543 = .ok (.istore 6, 2) := fo_dd DL_law_23 15 rfl
theorem dL_law_2545 : decode cL_law 2545 = .ok (.aload_n 2, 1) := fo_dd DL_law_23 16 rfl
theorem dL_law_2546 : decode cL_law 2546 = .ok (.invokevirtual 283, 3) := fo_dd DL_law_23 17 rfl
theorem dL_law_2549 : decode cL_law 2549 = .ok (.istore 7, 2) := fo_dd DL_law_23 18 rfl
theorem dL_law_2551 : decode cL_law 2551 = .ok (.aload_n 2, 1) := fo_dd DL_law_23 19 rfl
theorem dL_law_2552 : decode cL_law 2552 = .ok (.invokevirtual 154, 3) := fo_dd DL_law_23 20 rfl
theorem dL_law_2555 : decode cL_law 2555 = .ok (.iload 6, 2) := fo_dd DL_law_23 21 rfl
theorem dL_law_2557 : decode cL_law 2557 = .ok (.if_icmp .eq 5, 3) := fo_dd DL_law_23 22 rfl
theorem dL_law_2560 : decode cL_law 2560 = .ok (.iconst 0, 1) := fo_dd DL_law_23 23 rfl
theorem dL_law_2561 : decode cL_law 2561 = .ok (.ireturn, 1) := fo_dd DL_law_23 24 rfl
theorem dL_law_2562 : decode cL_law 2562 = .ok (.iload 6, 2) := fo_dd DL_law_23 25 rfl
theorem dL_law_2564 : decode cL_law 2564 = .ok (.ifCond .ne 15, 3) := fo_dd DL_law_23 26 rfl
theorem dL_law_2567 : decode cL_law 2567 = .ok (.aload_n 3, 1) := fo_dd DL_law_23 27 rfl
theorem dL_law_2568 : decode cL_law 2568 = .ok (.iconst 0, 1) := fo_dd DL_law_23 28 rfl
theorem dL_law_2569 : decode cL_law 2569 = .ok (.laload, 1) := fo_dd DL_law_23 29 rfl
theorem dL_law_2570 : decode cL_law 2570 = .ok (.iload 7, 2) := fo_dd DL_law_23 30 rfl
theorem dL_law_2572 : decode cL_law 2572 = .ok (.i2l, 1) := fo_dd DL_law_23 31 rfl
theorem dL_law_2573 : decode cL_law 2573 = .ok (.lcmp, 1) := fo_dd DL_law_23 32 rfl
theorem dL_law_2574 : decode cL_law 2574 = .ok (.ifCond .eq 5, 3) := fo_dd DL_law_23 33 rfl
theorem dL_law_2577 : decode cL_law 2577 = .ok (.iconst 0, 1) := fo_dd DL_law_23 34 rfl
theorem dL_law_2578 : decode cL_law 2578 = .ok (.ireturn, 1) := fo_dd DL_law_23 35 rfl
theorem dL_law_2579 : decode cL_law 2579 = .ok (.goto 104, 3) := fo_dd DL_law_23 36 rfl
theorem dL_law_2582 : decode cL_law 2582 = .ok (.aload_n 1, 1) := fo_dd DL_law_23 37 rfl
theorem dL_law_2583 : decode cL_law 2583 = .ok (.aload_n 3, 1) := fo_dd DL_law_23 38 rfl
theorem dL_law_2584 : decode cL_law 2584 = .ok (.invokestatic 284, 3) := fo_dd DL_law_23 39 rfl
theorem dL_law_2587 : decode cL_law 2587 = .ok (.istore 6, 2) := fo_dd DL_law_23 40 rfl
theorem dL_law_2589 : decode cL_law 2589 = .ok (.aload_n 2, 1) := fo_dd DL_law_23 41 rfl
theorem dL_law_2590 : decode cL_law 2590 = .ok (.invokevirtual 286, 3) := fo_dd DL_law_23 42 rfl
theorem dL_law_2593 : decode cL_law 2593 = .ok (.istore 7, 2) := fo_dd DL_law_23 43 rfl
theorem dL_law_2595 : decode cL_law 2595 = .ok (.aload_n 2, 1) := fo_dd DL_law_23 44 rfl
theorem dL_law_2596 : decode cL_law 2596 = .ok (.invokevirtual 154, 3) := fo_dd DL_law_23 45 rfl
theorem dL_law_2599 : decode cL_law 2599 = .ok (.iload 6, 2) := fo_dd DL_law_23 46 rfl
theorem dL_law_2601 : decode cL_law 2601 = .ok (.if_icmp .eq 5, 3) := fo_dd DL_law_23 47 rfl
theorem dL_law_2604 : decode cL_law 2604 = .ok (.iconst 0, 1) := fo_dd DL_law_23 48 rfl
theorem dL_law_2605 : decode cL_law 2605 = .ok (.ireturn, 1) := fo_dd DL_law_23 49 rfl
theorem dL_law_2606 : decode cL_law 2606 = .ok (.iload 6, 2) := fo_dd DL_law_23 50 rfl
theorem dL_law_2608 : decode cL_law 2608 = .ok (.ifCond .ne 15, 3) := fo_dd DL_law_23 51 rfl
theorem dL_law_2611 : decode cL_law 2611 = .ok (.aload_n 3, 1) := fo_dd DL_law_23 52 rfl
theorem dL_law_2612 : decode cL_law 2612 = .ok (.iconst 0, 1) := fo_dd DL_law_23 53 rfl
theorem dL_law_2613 : decode cL_law 2613 = .ok (.laload, 1) := fo_dd DL_law_23 54 rfl
theorem dL_law_2614 : decode cL_law 2614 = .ok (.iload 7, 2) := fo_dd DL_law_23 55 rfl
theorem dL_law_2616 : decode cL_law 2616 = .ok (.i2l, 1) := fo_dd DL_law_23 56 rfl
theorem dL_law_2617 : decode cL_law 2617 = .ok (.lcmp, 1) := fo_dd DL_law_23 57 rfl
theorem dL_law_2618 : decode cL_law 2618 = .ok (.ifCond .eq 5, 3) := fo_dd DL_law_23 58 rfl
theorem dL_law_2621 : decode cL_law 2621 = .ok (.iconst 0, 1) := fo_dd DL_law_23 59 rfl
theorem dL_law_2622 : decode cL_law 2622 = .ok (.ireturn, 1) := fo_dd DL_law_23 60 rfl
theorem dL_law_2623 : decode cL_law 2623 = .ok (.goto 60, 3) := fo_dd DL_law_23 61 rfl
theorem dL_law_2626 : decode cL_law 2626 = .ok (.aload_n 1, 1) := fo_dd DL_law_23 62 rfl
theorem dL_law_2627 : decode cL_law 2627 = .ok (.invokevirtual 287, 3) := fo_dd DL_law_23 63 rfl
theorem DL_law_24 : fo_dl cL_law [(2630, .aload_n 2, 1), (2631, .invokevirtual 290, 3), (2634, .if_icmp .eq 49, 3), (2637, .iconst 0, 1), (2638, .ireturn, 1), (2639, .aload_n 1, 1), (2640, .aload_n 3, 1), (2641, .invokestatic 291, 3), (2644, .istore 6, 2), (2646, .aload_n 2, 1), (2647, .invokevirtual 293, 3), (2650, .istore 7, 2), (2652, .aload_n 2, 1), (2653, .invokevirtual 154, 3), (2656, .iload 6, 2), (2658, .if_icmp .eq 5, 3), (2661, .iconst 0, 1), (2662, .ireturn, 1), (2663, .iload 6, 2), (2665, .ifCond .ne 15, 3), (2668, .aload_n 3, 1), (2669, .iconst 0, 1), (2670, .laload, 1), (2671, .iload 7, 2), (2673, .i2l, 1), (2674, .lcmp, 1), (2675, .ifCond .eq 5, 3), (2678, .iconst 0, 1), (2679, .ireturn, 1), (2680, .goto 3, 3), (2683, .iinc 5 4, 3), (2686, .goto (-2658), 3), (2689, .iconst 1, 1), (2690, .ireturn, 1)] := by decide +kernel
theorem dL_law_2630 : decode cL_law 2630 = .ok (.aload_n 2, 1) := fo_dd DL_law_24 0 rfl
theorem dL_law_2631 : decode cL_law 2631 = .ok (.invokevirtual 290, 3) := fo_dd DL_law_24 1 rfl
theorem dL_law_2634 : decode cL_law 2634 = .ok (.if_icmp .eq 49, 3) := fo_dd DL_law_24 2 rfl
theorem dL_law_2637 : decode cL_law 2637 = .ok (.iconst 0, 1) := fo_dd DL_law_24 3 rfl
theorem dL_law_2638 : decode cL_law 2638 = .ok (.ireturn, 1) := fo_dd DL_law_24 4 rfl
theorem dL_law_2639 : decode cL_law 2639 = .ok (.aload_n 1, 1) := fo_dd DL_law_24 5 rfl
theorem dL_law_2640 : decode cL_law 2640 = .ok (.aload_n 3, 1) := fo_dd DL_law_24 6 rfl
theorem dL_law_2641 : decode cL_law 2641 = .ok (.invokestatic 291, 3) := fo_dd DL_law_24 7 rfl
theorem dL_law_2644 : decode cL_law 2644 = .ok (.istore 6, 2) := fo_dd DL_law_24 8 rfl
theorem dL_law_2646 : decode cL_law 2646 = .ok (.aload_n 2, 1) := fo_dd DL_law_24 9 rfl
theorem dL_law_2647 : decode cL_law 2647 = .ok (.invokevirtual 293, 3) := fo_dd DL_law_24 10 rfl
theorem dL_law_2650 : decode cL_law 2650 = .ok (.istore 7, 2) := fo_dd DL_law_24 11 rfl
theorem dL_law_2652 : decode cL_law 2652 = .ok (.aload_n 2, 1) := fo_dd DL_law_24 12 rfl
theorem dL_law_2653 : decode cL_law 2653 = .ok (.invokevirtual 154, 3) := fo_dd DL_law_24 13 rfl
theorem dL_law_2656 : decode cL_law 2656 = .ok (.iload 6, 2) := fo_dd DL_law_24 14 rfl
theorem dL_law_2658 : decode cL_law 2658 = .ok (.if_icmp .eq 5, 3) := fo_dd DL_law_24 15 rfl
theorem dL_law_2661 : decode cL_law 2661 = .ok (.iconst 0, 1) := fo_dd DL_law_24 16 rfl
theorem dL_law_2662 : decode cL_law 2662 = .ok (.ireturn, 1) := fo_dd DL_law_24 17 rfl
theorem dL_law_2663 : decode cL_law 2663 = .ok (.iload 6, 2) := fo_dd DL_law_24 18 rfl
theorem dL_law_2665 : decode cL_law 2665 = .ok (.ifCond .ne 15, 3) := fo_dd DL_law_24 19 rfl
theorem dL_law_2668 : decode cL_law 2668 = .ok (.aload_n 3, 1) := fo_dd DL_law_24 20 rfl
theorem dL_law_2669 : decode cL_law 2669 = .ok (.iconst 0, 1) := fo_dd DL_law_24 21 rfl
theorem dL_law_2670 : decode cL_law 2670 = .ok (.laload, 1) := fo_dd DL_law_24 22 rfl
theorem dL_law_2671 : decode cL_law 2671 = .ok (.iload 7, 2) := fo_dd DL_law_24 23 rfl
theorem dL_law_2673 : decode cL_law 2673 = .ok (.i2l, 1) := fo_dd DL_law_24 24 rfl
theorem dL_law_2674 : decode cL_law 2674 = .ok (.lcmp, 1) := fo_dd DL_law_24 25 rfl
theorem dL_law_2675 : decode cL_law 2675 = .ok (.ifCond .eq 5, 3) := fo_dd DL_law_24 26 rfl
theorem dL_law_2678 : decode cL_law 2678 = .ok (.iconst 0, 1) := fo_dd DL_law_24 27 rfl
theorem dL_law_2679 : decode cL_law 2679 = .ok (.ireturn, 1) := fo_dd DL_law_24 28 rfl
theorem dL_law_2680 : decode cL_law 2680 = .ok (.goto 3, 3) := fo_dd DL_law_24 29 rfl
theorem dL_law_2683 : decode cL_law 2683 = .ok (.iinc 5 4, 3) := fo_dd DL_law_24 30 rfl
theorem dL_law_2686 : decode cL_law 2686 = .ok (.goto (-2658), 3) := fo_dd DL_law_24 31 rfl
theorem dL_law_2689 : decode cL_law 2689 = .ok (.iconst 1, 1) := fo_dd DL_law_24 32 rfl
theorem dL_law_2690 : decode cL_law 2690 = .ok (.ireturn, 1) := fo_dd DL_law_24 33 rfl
