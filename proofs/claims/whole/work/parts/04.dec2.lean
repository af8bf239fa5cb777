theorem DX7_init_0 : fo_dl cX7_init [(0, .aload_n 0, 1), (1, .invokespecial 1, 3), (4, .aload_n 0, 1), (5, .sipush 150, 3), (8, .newarray .int, 2), (10, .putfield 7, 3), (13, .aload_n 0, 1), (14, .sipush 150, 3), (17, .newarray .int, 2), (19, .putfield 13, 3), (22, .aload_n 0, 1), (23, .sipush 150, 3), (26, .newarray .int, 2), (28, .putfield 16, 3), (31, .aload_n 0, 1), (32, .sipush 1200, 3), (35, .newarray .int, 2), (37, .putfield 19, 3), (40, .aload_n 0, 1), (41, .bipush 30, 2), (43, .newarray .int, 2), (45, .putfield 22, 3), (48, .aload_n 0, 1), (49, .iconst 0, 1), (50, .putfield 25, 3), (53, .aload_n 0, 1), (54, .iconst 0, 1), (55, .putfield 29, 3), (58, .aload_n 0, 1), (59, .iconst (-1), 1), (60, .putfield 32, 3), (63, .aload_n 0, 1), (64, .iconst (-1), 1), (65, .putfield 35, 3), (68, .aload_n 0, 1), (69, .iconst 0, 1), (70, .putfield 38, 3), (73, .aload_n 0, 1), (74, .sipush 160, 3), (77, .newarray .int, 2), (79, .putfield 42, 3), (82, .aload_n 0, 1), (83, .iconst 0, 1), (84, .putfield 45, 3), (87, .aload_n 0, 1), (88, .bipush 60, 2), (90, .newarray .int, 2), (92, .putfield 48, 3), (95, .aload_n 0, 1), (96, .bipush 32, 2), (98, .newarray .int, 2), (100, .putfield 51, 3), (103, .aload_n 0, 1), (104, .bipush 32, 2), (106, .newarray .int, 2), (108, .putfield 54, 3), (111, .aload_n 0, 1), (112, .bipush 32, 2), (114, .newarray .int, 2), (116, .putfield 57, 3), (119, .aload_n 0, 1), (120, .bipush 32, 2), (122, .newarray .int, 2), (124, .putfield 60, 3)] := by decide +kernel
theorem dX7_init_0 : decode cX7_init 0 = .ok (.aload_n 0, 1) := fo_dd DX7_init_0 0 rfl
theorem dX7_init_1 : decode cX7_init 1 = .ok (.invokespecial 1, 3) := fo_dd DX7_init_0 1 rfl
theorem dX7_init_4 : decode cX7_init 4 = .ok (.aload_n 0, 1) := fo_dd DX7_init_0 2 rfl
theorem dX7_init_5 : decode cX7_init 5 = .ok (.sipush 150, 3) := fo_dd DX7_init_0 3 rfl
theorem dX7_init_8 : decode cX7_init 8 = .ok (.newarray .int, 2) := fo_dd DX7_init_0 4 rfl
theorem dX7_init_10 : decode cX7_init 10 = .ok (.putfield 7, 3) := fo_dd DX7_init_0 5 rfl
theorem dX7_init_13 : decode cX7_init 13 = .ok (.aload_n 0, 1) := fo_dd DX7_init_0 6 rfl
theorem dX7_init_14 : decode cX7_init 14 = .ok (.sipush 150, 3) := fo_dd DX7_init_0 7 rfl
theorem dX7_init_17 : decode cX7_init 17 = .ok (.newarray .int, 2) := fo_dd DX7_init_0 8 rfl
theorem dX7_init_19 : decode cX7_init 19 = .ok (.putfield 13, 3) := fo_dd DX7_init_0 9 rfl
theorem dX7_init_22 : decode cX7_init 22 = .ok (.aload_n 0, 1) := fo_dd DX7_init_0 10 rfl
theorem dX7_init_23 : decode cX7_init 23 = .ok (.sipush 150, 3) := fo_dd DX7_init_0 11 rfl
theorem dX7_init_26 : decode cX7_init 26 = .ok (.newarray .int, 2) := fo_dd DX7_init_0 12 rfl
theorem dX7_init_28 : decode cX7_init 28 = .ok (.putfield 16, 3) := fo_dd DX7_init_0 13 rfl
theorem dX7_init_31 : decode cX7_init 31 = .ok (.aload_n 0, 1) := fo_dd DX7_init_0 14 rfl
theorem dX7_init_32 : decode cX7_init 32 = .ok (.sipush 1200, 3) := fo_dd DX7_init_0 15 rfl
theorem dX7_init_35 : decode cX7_init 35 = .ok (.newarray .int, 2) := fo_dd DX7_init_0 16 rfl
theorem dX7_init_37 : decode cX7_init 37 = .ok (.putfield 19, 3) := fo_dd DX7_init_0 17 rfl
theorem dX7_init_40 : decode cX7_init 40 = .ok (.aload_n 0, 1) := fo_dd DX7_init_0 18 rfl
theorem dX7_init_41 : decode cX7_init 41 = .ok (.bipush 30, 2) := fo_dd DX7_init_0 19 rfl
theorem dX7_init_43 : decode cX7_init 43 = .ok (.newarray .int, 2) := fo_dd DX7_init_0 20 rfl
theorem dX7_init_45 : decode cX7_init 45 = .ok (.putfield 22, 3) := fo_dd DX7_init_0 21 rfl
theorem dX7_init_48 : decode cX7_init 48 = .ok (.aload_n 0, 1) := fo_dd DX7_init_0 22 rfl
theorem dX7_init_49 : decode cX7_init 49 = .ok (.iconst 0, 1) := fo_dd DX7_init_0 23 rfl
theorem dX7_init_50 : decode cX7_init 50 = .ok (.putfield 25, 3) := fo_dd DX7_init_0 24 rfl
theorem dX7_init_53 : decode cX7_init 53 = .ok (.aload_n 0, 1) := fo_dd DX7_init_0 25 rfl
theorem dX7_init_54 : decode cX7_init 54 = .ok (.iconst 0, 1) := fo_dd DX7_init_0 26 rfl
theorem dX7_init_55 : decode cX7_init 55 = .ok (.putfield 29, 3) := fo_dd DX7_init_0 27 rfl
theorem dX7_init_58 : decode cX7_init 58 = .ok (.aload_n 0, 1) := fo_dd DX7_init_0 28 rfl
theorem dX7_init_59 : decode cX7_init 59 = .ok (.iconst (-1), 1) := fo_dd DX7_init_0 29 rfl
theorem dX7_init_60 : decode cX7_init 60 = .ok (.putfield 32, 3) := fo_dd DX7_init_0 30 rfl
theorem dX7_init_63 : decode cX7_init 63 = .ok (.aload_n 0, 1) := fo_dd DX7_init_0 31 rfl
theorem dX7_init_64 : decode cX7_init 64 = .ok (.iconst (-1), 1) := fo_dd DX7_init_0 32 rfl
theorem dX7_init_65 : decode cX7_init 65 = .ok (.putfield 35, 3) := fo_dd DX7_init_0 33 rfl
theorem dX7_init_68 : decode cX7_init 68 = .ok (.aload_n 0, 1) := fo_dd DX7_init_0 34 rfl
theorem dX7_init_69 : decode cX7_init 69 = .ok (.iconst 0, 1) := fo_dd DX7_init_0 35 rfl
theorem dX7_init_70 : decode cX7_init 70 = .ok (.putfield 38, 3) := fo_dd DX7_init_0 36 rfl
theorem dX7_init_73 : decode cX7_init 73 = .ok (.aload_n 0, 1) := fo_dd DX7_init_0 37 rfl
theorem dX7_init_74 : decode cX7_init 74 = .ok (.sipush 160, 3) := fo_dd DX7_init_0 38 rfl
theorem dX7_init_77 : decode cX7_init 77 = .ok (.newarray .int, 2) := fo_dd DX7_init_0 39 rfl
theorem dX7_init_79 : decode cX7_init 79 = .ok (.putfield 42, 3) := fo_dd DX7_init_0 40 rfl
theorem dX7_init_82 : decode cX7_init 82 = .ok (.aload_n 0, 1) := fo_dd DX7_init_0 41 rfl
theorem dX7_init_83 : decode cX7_init 83 = .ok (.iconst 0, 1) := fo_dd DX7_init_0 42 rfl
theorem dX7_init_84 : decode cX7_init 84 = .ok (.putfield 45, 3) := fo_dd DX7_init_0 43 rfl
theorem dX7_init_87 : decode cX7_init 87 = .ok (.aload_n 0, 1) := fo_dd DX7_init_0 44 rfl
theorem dX7_init_88 : decode cX7_init 88 = .ok (.bipush 60, 2) := fo_dd DX7_init_0 45 rfl
theorem dX7_init_90 : decode cX7_init 90 = .ok (.newarray .int, 2) := fo_dd DX7_init_0 46 rfl
theorem dX7_init_92 : decode cX7_init 92 = .ok (.putfield 48, 3) := fo_dd DX7_init_0 47 rfl
theorem dX7_init_95 : decode cX7_init 95 = .ok (.aload_n 0, 1) := fo_dd DX7_init_0 48 rfl
theorem dX7_init_96 : decode cX7_init 96 = .ok (.bipush 32, 2) := fo_dd DX7_init_0 49 rfl
theorem dX7_init_98 : decode cX7_init 98 = .ok (.newarray .int, 2) := fo_dd DX7_init_0 50 rfl
theorem dX7_init_100 : decode cX7_init 100 = .ok (.putfield 51, 3) := fo_dd DX7_init_0 51 rfl
theorem dX7_init_103 : decode cX7_init 103 = .ok (.aload_n 0, 1) := fo_dd DX7_init_0 52 rfl
theorem dX7_init_104 : decode cX7_init 104 = .ok (.bipush 32, 2) := fo_dd DX7_init_0 53 rfl
theorem dX7_init_106 : decode cX7_init 106 = .ok (.newarray .int, 2) := fo_dd DX7_init_0 54 rfl
theorem dX7_init_108 : decode cX7_init 108 = .ok (.putfield 54, 3) := fo_dd DX7_init_0 55 rfl
theorem dX7_init_111 : decode cX7_init 111 = .ok (.aload_n 0, 1) := fo_dd DX7_init_0 56 rfl
theorem dX7_init_112 : decode cX7_init 112 = .ok (.bipush 32, 2) := fo_dd DX7_init_0 57 rfl
theorem dX7_init_114 : decode cX7_init 114 = .ok (.newarray .int, 2) := fo_dd DX7_init_0 58 rfl
theorem dX7_init_116 : decode cX7_init 116 = .ok (.putfield 57, 3) := fo_dd DX7_init_0 59 rfl
theorem dX7_init_119 : decode cX7_init 119 = .ok (.aload_n 0, 1) := fo_dd DX7_init_0 60 rfl
theorem dX7_init_120 : decode cX7_init 120 = .ok (.bipush 32, 2) := fo_dd DX7_init_0 61 rfl
theorem dX7_init_122 : decode cX7_init 122 = .ok (.newarray .int, 2) := fo_dd DX7_init_0 62 rfl
theorem dX7_init_124 : decode cX7_init 124 = .ok (.putfield 60, 3) := fo_dd DX7_init_0 63 rfl
theorem DX7_init_1 : fo_dl cX7_init [(127, .aload_n 0, 1), (128, .bipush 60, 2), (130, .newarray .int, 2), (132, .putfield 63, 3), (135, .aload_n 0, 1), (136, .iconst 0, 1), (137, .putfield 66, 3), (140, .aload_n 0, 1), (141, .iconst 0, 1), (142, .putfield 69, 3), (145, .aload_n 0, 1), (146, .iconst 0, 1), (147, .putfield 72, 3), (150, .aload_n 0, 1), (151, .iconst 0, 1), (152, .putfield 75, 3), (155, .aload_n 0, 1), (156, .iconst 0, 1), (157, .putfield 78, 3), (160, .aload_n 0, 1), (161, .iconst 0, 1), (162, .putfield 81, 3), (165, .aload_n 0, 1), (166, .getfield 7, 3), (169, .iconst 1, 1), (170, .iconst 3, 1), (171, .iastore, 1), (172, .return_, 1)] := by decide +kernel
theorem dX7_init_127 : decode cX7_init 127 = .ok (.aload_n 0, 1) := fo_dd DX7_init_1 0 rfl
theorem dX7_init_128 : decode cX7_init 128 = .ok (.bipush 60, 2) := fo_dd DX7_init_1 1 rfl
theorem dX7_init_130 : decode cX7_init 130 = .ok (.newarray .int, 2) := fo_dd DX7_init_1 2 rfl
theorem dX7_init_132 : decode cX7_init 132 = .ok (.putfield 63, 3) := fo_dd DX7_init_1 3 rfl
theorem dX7_init_135 : decode cX7_init 135 = .ok (.aload_n 0, 1) := fo_dd DX7_init_1 4 rfl
theorem dX7_init_136 : decode cX7_init 136 = .ok (.iconst 0, 1) := fo_dd DX7_init_1 5 rfl
theorem dX7_init_137 : decode cX7_init 137 = .ok (.putfield 66, 3) := fo_dd DX7_init_1 6 rfl
theorem dX7_init_140 : decode cX7_init 140 = .ok (.aload_n 0, 1) := fo_dd DX7_init_1 7 rfl
theorem dX7_init_141 : decode cX7_init 141 = .ok (.iconst 0, 1) := fo_dd DX7_init_1 8 rfl
theorem dX7_init_142 : decode cX7_init 142 = .ok (.putfield 69, 3) := fo_dd DX7_init_1 9 rfl
theorem dX7_init_145 : decode cX7_init 145 = .ok (.aload_n 0, 1) := fo_dd DX7_init_1 10 rfl
theorem dX7_init_146 : decode cX7_init 146 = .ok (.iconst 0, 1) := fo_dd DX7_init_1 11 rfl
theorem dX7_init_147 : decode cX7_init 147 = .ok (.putfield 72, 3) := fo_dd DX7_init_1 12 rfl
theorem dX7_init_150 : decode cX7_init 150 = .ok (.aload_n 0, 1) := fo_dd DX7_init_1 13 rfl
theorem dX7_init_151 : decode cX7_init 151 = .ok (.iconst 0, 1) := fo_dd DX7_init_1 14 rfl
theorem dX7_init_152 : decode cX7_init 152 = .ok (.putfield 75, 3) := fo_dd DX7_init_1 15 rfl
theorem dX7_init_155 : decode cX7_init 155 = .ok (.aload_n 0, 1) := fo_dd DX7_init_1 16 rfl
theorem dX7_init_156 : decode cX7_init 156 = .ok (.iconst 0, 1) := fo_dd DX7_init_1 17 rfl
theorem dX7_init_157 : decode cX7_init 157 = .ok (.putfield 78, 3) := fo_dd DX7_init_1 18 rfl
theorem dX7_init_160 : decode cX7_init 160 = .ok (.aload_n 0, 1) := fo_dd DX7_init_1 19 rfl
theorem dX7_init_161 : decode cX7_init 161 = .ok (.iconst 0, 1) := fo_dd DX7_init_1 20 rfl
theorem dX7_init_162 : decode cX7_init 162 = .ok (.putfield 81, 3) := fo_dd DX7_init_1 21 rfl
theorem dX7_init_165 : decode cX7_init 165 = .ok (.aload_n 0, 1) := fo_dd DX7_init_1 22 rfl
theorem dX7_init_166 : decode cX7_init 166 = .ok (.getfield 7, 3) := fo_dd DX7_init_1 23 rfl
theorem dX7_init_169 : decode cX7_init 169 = .ok (.iconst 1, 1) := fo_dd DX7_init_1 24 rfl
theorem dX7_init_170 : decode cX7_init 170 = .ok (.iconst 3, 1) := fo_dd DX7_init_1 25 rfl
theorem dX7_init_171 : decode cX7_init 171 = .ok (.iastore, 1) := fo_dd DX7_init_1 26 rfl
theorem dX7_init_172 : decode cX7_init 172 = .ok (.return_, 1) := fo_dd DX7_init_1 27 rfl
theorem DX7_thrown_0 : fo_dl cX7_thrown [(0, .aload_n 0, 1), (1, .getfield 25, 3), (4, .ireturn, 1)] := by decide +kernel
theorem dX7_thrown_0 : decode cX7_thrown 0 = .ok (.aload_n 0, 1) := fo_dd DX7_thrown_0 0 rfl
theorem dX7_thrown_1 : decode cX7_thrown 1 = .ok (.getfield 25, 3) := fo_dd DX7_thrown_0 1 rfl
theorem dX7_thrown_4 : decode cX7_thrown 4 = .ok (.ireturn, 1) := fo_dd DX7_thrown_0 2 rfl
theorem DX7_in_0 : fo_dl cX7_in [(0, .iload_n 0, 1), (1, .iload_n 1, 1), (2, .if_icmp .lt 12, 3), (5, .iload_n 0, 1), (6, .iload_n 2, 1), (7, .if_icmp .gt 7, 3), (10, .iconst 1, 1), (11, .goto 4, 3), (14, .iconst 0, 1), (15, .ireturn, 1)] := by decide +kernel
theorem dX7_in_0 : decode cX7_in 0 = .ok (.iload_n 0, 1) := fo_dd DX7_in_0 0 rfl
theorem dX7_in_1 : decode cX7_in 1 = .ok (.iload_n 1, 1) := fo_dd DX7_in_0 1 rfl
theorem dX7_in_2 : decode cX7_in 2 = .ok (.if_icmp .lt 12, 3) := fo_dd DX7_in_0 2 rfl
theorem dX7_in_5 : decode cX7_in 5 = .ok (.iload_n 0, 1) := fo_dd DX7_in_0 3 rfl
theorem dX7_in_6 : decode cX7_in 6 = .ok (.iload_n 2, 1) := fo_dd DX7_in_0 4 rfl
theorem dX7_in_7 : decode cX7_in 7 = .ok (.if_icmp .gt 7, 3) := fo_dd DX7_in_0 5 rfl
theorem dX7_in_10 : decode cX7_in 10 = .ok (.iconst 1, 1) := fo_dd DX7_in_0 6 rfl
theorem dX7_in_11 : decode cX7_in 11 = .ok (.goto 4, 3) := fo_dd DX7_in_0 7 rfl
theorem dX7_in_14 : decode cX7_in 14 = .ok (.iconst 0, 1) := fo_dd DX7_in_0 8 rfl
theorem dX7_in_15 : decode cX7_in 15 = .ok (.ireturn, 1) := fo_dd DX7_in_0 9 rfl
theorem DX7_copy_0 : fo_dl cX7_copy [(0, .iconst 0, 1), (1, .istore 4, 2), (3, .iload 4, 2), (5, .sipush 150, 3), (8, .if_icmp .ge 21, 3), (11, .aload_n 2, 1), (12, .iload_n 3, 1), (13, .iload 4, 2), (15, .iadd, 1), (16, .aload_n 0, 1), (17, .iload_n 1, 1), (18, .iload 4, 2), (20, .iadd, 1), (21, .iaload, 1), (22, .iastore, 1), (23, .iinc 4 1, 3), (26, .goto (-23), 3), (29, .return_, 1)] := by decide +kernel
theorem dX7_copy_0 : decode cX7_copy 0 = .ok (.iconst 0, 1) := fo_dd DX7_copy_0 0 rfl
theorem dX7_copy_1 : decode cX7_copy 1 = .ok (.istore 4, 2) := fo_dd DX7_copy_0 1 rfl
theorem dX7_copy_3 : decode cX7_copy 3 = .ok (.iload 4, 2) := fo_dd DX7_copy_0 2 rfl
theorem dX7_copy_5 : decode cX7_copy 5 = .ok (.sipush 150, 3) := fo_dd DX7_copy_0 3 rfl
theorem dX7_copy_8 : decode cX7_copy 8 = .ok (.if_icmp .ge 21, 3) := fo_dd DX7_copy_0 4 rfl
theorem dX7_copy_11 : decode cX7_copy 11 = .ok (.aload_n 2, 1) := fo_dd DX7_copy_0 5 rfl
theorem dX7_copy_12 : decode cX7_copy 12 = .ok (.iload_n 3, 1) := fo_dd DX7_copy_0 6 rfl
theorem dX7_copy_13 : decode cX7_copy 13 = .ok (.iload 4, 2) := fo_dd DX7_copy_0 7 rfl
theorem dX7_copy_15 : decode cX7_copy 15 = .ok (.iadd, 1) := fo_dd DX7_copy_0 8 rfl
theorem dX7_copy_16 : decode cX7_copy 16 = .ok (.aload_n 0, 1) := fo_dd DX7_copy_0 9 rfl
theorem dX7_copy_17 : decode cX7_copy 17 = .ok (.iload_n 1, 1) := fo_dd DX7_copy_0 10 rfl
theorem dX7_copy_18 : decode cX7_copy 18 = .ok (.iload 4, 2) := fo_dd DX7_copy_0 11 rfl
theorem dX7_copy_20 : decode cX7_copy 20 = .ok (.iadd, 1) := fo_dd DX7_copy_0 12 rfl
theorem dX7_copy_21 : decode cX7_copy 21 = .ok (.iaload, 1) := fo_dd DX7_copy_0 13 rfl
theorem dX7_copy_22 : decode cX7_copy 22 = .ok (.iastore, 1) := fo_dd DX7_copy_0 14 rfl
theorem dX7_copy_23 : decode cX7_copy 23 = .ok (.iinc 4 1, 3) := fo_dd DX7_copy_0 15 rfl
theorem dX7_copy_26 : decode cX7_copy 26 = .ok (.goto (-23), 3) := fo_dd DX7_copy_0 16 rfl
theorem dX7_copy_29 : decode cX7_copy 29 = .ok (.return_, 1) := fo_dd DX7_copy_0 17 rfl
theorem DX7_fail_0 : fo_dl cX7_fail [(0, .aload_n 0, 1), (1, .iload_n 1, 1), (2, .putfield 25, 3), (5, .iconst 0, 1), (6, .ireturn, 1)] := by decide +kernel
theorem dX7_fail_0 : decode cX7_fail 0 = .ok (.aload_n 0, 1) := fo_dd DX7_fail_0 0 rfl
theorem dX7_fail_1 : decode cX7_fail 1 = .ok (.iload_n 1, 1) := fo_dd DX7_fail_0 1 rfl
theorem dX7_fail_2 : decode cX7_fail 2 = .ok (.putfield 25, 3) := fo_dd DX7_fail_0 2 rfl
theorem dX7_fail_5 : decode cX7_fail 5 = .ok (.iconst 0, 1) := fo_dd DX7_fail_0 3 rfl
theorem dX7_fail_6 : decode cX7_fail 6 = .ok (.ireturn, 1) := fo_dd DX7_fail_0 4 rfl
theorem DX7_begin_0 : fo_dl cX7_begin [(0, .aload_n 0, 1), (1, .iconst 0, 1), (2, .putfield 25, 3), (5, .aload_n 0, 1), (6, .getfield 7, 3), (9, .iconst 0, 1), (10, .aload_n 0, 1), (11, .getfield 13, 3), (14, .iconst 0, 1), (15, .invokestatic 84, 3), (18, .return_, 1)] := by decide +kernel
theorem dX7_begin_0 : decode cX7_begin 0 = .ok (.aload_n 0, 1) := fo_dd DX7_begin_0 0 rfl
theorem dX7_begin_1 : decode cX7_begin 1 = .ok (.iconst 0, 1) := fo_dd DX7_begin_0 1 rfl
theorem dX7_begin_2 : decode cX7_begin 2 = .ok (.putfield 25, 3) := fo_dd DX7_begin_0 2 rfl
theorem dX7_begin_5 : decode cX7_begin 5 = .ok (.aload_n 0, 1) := fo_dd DX7_begin_0 3 rfl
theorem dX7_begin_6 : decode cX7_begin 6 = .ok (.getfield 7, 3) := fo_dd DX7_begin_0 4 rfl
theorem dX7_begin_9 : decode cX7_begin 9 = .ok (.iconst 0, 1) := fo_dd DX7_begin_0 5 rfl
theorem dX7_begin_10 : decode cX7_begin 10 = .ok (.aload_n 0, 1) := fo_dd DX7_begin_0 6 rfl
theorem dX7_begin_11 : decode cX7_begin 11 = .ok (.getfield 13, 3) := fo_dd DX7_begin_0 7 rfl
theorem dX7_begin_14 : decode cX7_begin 14 = .ok (.iconst 0, 1) := fo_dd DX7_begin_0 8 rfl
theorem dX7_begin_15 : decode cX7_begin 15 = .ok (.invokestatic 84, 3) := fo_dd DX7_begin_0 9 rfl
theorem dX7_begin_18 : decode cX7_begin 18 = .ok (.return_, 1) := fo_dd DX7_begin_0 10 rfl
theorem DX7_commit_0 : fo_dl cX7_commit [(0, .aload_n 0, 1), (1, .getfield 29, 3), (4, .bipush 8, 2), (6, .if_icmp .ne 50, 3), (9, .iconst 1, 1), (10, .istore_n 2, 1), (11, .iload_n 2, 1), (12, .bipush 8, 2), (14, .if_icmp .ge 32, 3), (17, .aload_n 0, 1), (18, .getfield 19, 3), (21, .sipush 150, 3), (24, .iload_n 2, 1), (25, .imul, 1), (26, .aload_n 0, 1), (27, .getfield 19, 3), (30, .sipush 150, 3), (33, .iload_n 2, 1), (34, .iconst 1, 1), (35, .isub, 1), (36, .imul, 1), (37, .invokestatic 84, 3), (40, .iinc 2 1, 3), (43, .goto (-32), 3), (46, .aload_n 0, 1), (47, .dup, 1), (48, .getfield 29, 3), (51, .iconst 1, 1), (52, .isub, 1), (53, .putfield 29, 3), (56, .aload_n 0, 1), (57, .getfield 13, 3), (60, .iconst 0, 1), (61, .aload_n 0, 1), (62, .getfield 19, 3), (65, .sipush 150, 3), (68, .aload_n 0, 1), (69, .getfield 29, 3), (72, .imul, 1), (73, .invokestatic 84, 3), (76, .aload_n 0, 1), (77, .dup, 1), (78, .getfield 29, 3), (81, .iconst 1, 1), (82, .iadd, 1), (83, .putfield 29, 3), (86, .iload_n 1, 1), (87, .ireturn, 1)] := by decide +kernel
theorem dX7_commit_0 : decode cX7_commit 0 = .ok (.aload_n 0, 1) := fo_dd DX7_commit_0 0 rfl
theorem dX7_commit_1 : decode cX7_commit 1 = .ok (.getfield 29, 3) := fo_dd DX7_commit_0 1 rfl
theorem dX7_commit_4 : decode cX7_commit 4 = .ok (.bipush 8, 2) := fo_dd DX7_commit_0 2 rfl
theorem dX7_commit_6 : decode cX7_commit 6 = .ok (.if_icmp .ne 50, 3) := fo_dd DX7_commit_0 3 rfl
theorem dX7_commit_9 : decode cX7_commit 9 = .ok (.iconst 1, 1) := fo_dd DX7_commit_0 4 rfl
theorem dX7_commit_10 : decode cX7_commit 10 = .ok (.istore_n 2, 1) := fo_dd DX7_commit_0 5 rfl
theorem dX7_commit_11 : decode cX7_commit 11 = .ok (.iload_n 2, 1) := fo_dd DX7_commit_0 6 rfl
theorem dX7_commit_12 : decode cX7_commit 12 = .ok (.bipush 8, 2) := fo_dd DX7_commit_0 7 rfl
theorem dX7_commit_14 : decode cX7_commit 14 = .ok (.if_icmp .ge 32, 3) := fo_dd DX7_commit_0 8 rfl
theorem dX7_commit_17 : decode cX7_commit 17 = .ok (.aload_n 0, 1) := fo_dd DX7_commit_0 9 rfl
theorem dX7_commit_18 : decode cX7_commit 18 = .ok (.getfield 19, 3) := fo_dd DX7_commit_0 10 rfl
theorem dX7_commit_21 : decode cX7_commit 21 = .ok (.sipush 150, 3) := fo_dd DX7_commit_0 11 rfl
theorem dX7_commit_24 : decode cX7_commit 24 = .ok (.iload_n 2, 1) := fo_dd DX7_commit_0 12 rfl
theorem dX7_commit_25 : decode cX7_commit 25 = .ok (.imul, 1) := fo_dd DX7_commit_0 13 rfl
theorem dX7_commit_26 : decode cX7_commit 26 = .ok (.aload_n 0, 1) := fo_dd DX7_commit_0 14 rfl
theorem dX7_commit_27 : decode cX7_commit 27 = .ok (.getfield 19, 3) := fo_dd DX7_commit_0 15 rfl
theorem dX7_commit_30 : decode cX7_commit 30 = .ok (.sipush 150, 3) := fo_dd DX7_commit_0 16 rfl
theorem dX7_commit_33 : decode cX7_commit 33 = .ok (.iload_n 2, 1) := fo_dd DX7_commit_0 17 rfl
theorem dX7_commit_34 : decode cX7_commit 34 = .ok (.iconst 1, 1) := fo_dd DX7_commit_0 18 rfl
theorem dX7_commit_35 : decode cX7_commit 35 = .ok (.isub, 1) := fo_dd DX7_commit_0 19 rfl
theorem dX7_commit_36 : decode cX7_commit 36 = .ok (.imul, 1) := fo_dd DX7_commit_0 20 rfl
theorem dX7_commit_37 : decode cX7_commit 37 = .ok (.invokestatic 84, 3) := fo_dd DX7_commit_0 21 rfl
theorem dX7_commit_40 : decode cX7_commit 40 = .ok (.iinc 2 1, 3) := fo_dd DX7_commit_0 22 rfl
theorem dX7_commit_43 : decode cX7_commit 43 = .ok (.goto (-32), 3) := fo_dd DX7_commit_0 23 rfl
theorem dX7_commit_46 : decode cX7_commit 46 = .ok (.aload_n 0, 1) := fo_dd DX7_commit_0 24 rfl
theorem dX7_commit_47 : decode cX7_commit 47 = .ok (.dup, 1) := fo_dd DX7_commit_0 25 rfl
theorem dX7_commit_48 : decode cX7_commit 48 = .ok (.getfield 29, 3) := fo_dd DX7_commit_0 26 rfl
theorem dX7_commit_51 : decode cX7_commit 51 = .ok (.iconst 1, 1) := fo_dd DX7_commit_0 27 rfl
theorem dX7_commit_52 : decode cX7_commit 52 = .ok (.isub, 1) := fo_dd DX7_commit_0 28 rfl
theorem dX7_commit_53 : decode cX7_commit 53 = .ok (.putfield 29, 3) := fo_dd DX7_commit_0 29 rfl
theorem dX7_commit_56 : decode cX7_commit 56 = .ok (.aload_n 0, 1) := fo_dd DX7_commit_0 30 rfl
theorem dX7_commit_57 : decode cX7_commit 57 = .ok (.getfield 13, 3) := fo_dd DX7_commit_0 31 rfl
theorem dX7_commit_60 : decode cX7_commit 60 = .ok (.iconst 0, 1) := fo_dd DX7_commit_0 32 rfl
theorem dX7_commit_61 : decode cX7_commit 61 = .ok (.aload_n 0, 1) := fo_dd DX7_commit_0 33 rfl
theorem dX7_commit_62 : decode cX7_commit 62 = .ok (.getfield 19, 3) := fo_dd DX7_commit_0 34 rfl
theorem dX7_commit_65 : decode cX7_commit 65 = .ok (.sipush 150, 3) := fo_dd DX7_commit_0 35 rfl
theorem dX7_commit_68 : decode cX7_commit 68 = .ok (.aload_n 0, 1) := fo_dd DX7_commit_0 36 rfl
theorem dX7_commit_69 : decode cX7_commit 69 = .ok (.getfield 29, 3) := fo_dd DX7_commit_0 37 rfl
theorem dX7_commit_72 : decode cX7_commit 72 = .ok (.imul, 1) := fo_dd DX7_commit_0 38 rfl
theorem dX7_commit_73 : decode cX7_commit 73 = .ok (.invokestatic 84, 3) := fo_dd DX7_commit_0 39 rfl
theorem dX7_commit_76 : decode cX7_commit 76 = .ok (.aload_n 0, 1) := fo_dd DX7_commit_0 40 rfl
theorem dX7_commit_77 : decode cX7_commit 77 = .ok (.dup, 1) := fo_dd DX7_commit_0 41 rfl
theorem dX7_commit_78 : decode cX7_commit 78 = .ok (.getfield 29, 3) := fo_dd DX7_commit_0 42 rfl
theorem dX7_commit_81 : decode cX7_commit 81 = .ok (.iconst 1, 1) := fo_dd DX7_commit_0 43 rfl
theorem dX7_commit_82 : decode cX7_commit 82 = .ok (.iadd, 1) := fo_dd DX7_commit_0 44 rfl
theorem dX7_commit_83 : decode cX7_commit 83 = .ok (.putfield 29, 3) := fo_dd DX7_commit_0 45 rfl
theorem dX7_commit_86 : decode cX7_commit 86 = .ok (.iload_n 1, 1) := fo_dd DX7_commit_0 46 rfl
theorem dX7_commit_87 : decode cX7_commit 87 = .ok (.ireturn, 1) := fo_dd DX7_commit_0 47 rfl
theorem DX7_isSeries_0 : fo_dl cX7_isSeries [(0, .iload_n 0, 1), (1, .iconst 0, 1), (2, .iconst 3, 1), (3, .invokestatic 88, 3), (6, .ireturn, 1)] := by decide +kernel
theorem dX7_isSeries_0 : decode cX7_isSeries 0 = .ok (.iload_n 0, 1) := fo_dd DX7_isSeries_0 0 rfl
theorem dX7_isSeries_1 : decode cX7_isSeries 1 = .ok (.iconst 0, 1) := fo_dd DX7_isSeries_0 1 rfl
theorem dX7_isSeries_2 : decode cX7_isSeries 2 = .ok (.iconst 3, 1) := fo_dd DX7_isSeries_0 2 rfl
theorem dX7_isSeries_3 : decode cX7_isSeries 3 = .ok (.invokestatic 88, 3) := fo_dd DX7_isSeries_0 3 rfl
theorem dX7_isSeries_6 : decode cX7_isSeries 6 = .ok (.ireturn, 1) := fo_dd DX7_isSeries_0 4 rfl
theorem DX7_v_0 : fo_dl cX7_v [(0, .aload_n 0, 1), (1, .getfield 7, 3), (4, .bipush 22, 2), (6, .bipush 30, 2), (8, .iload_n 1, 1), (9, .imul, 1), (10, .iadd, 1), (11, .iload_n 2, 1), (12, .iadd, 1), (13, .iaload, 1), (14, .ireturn, 1)] := by decide +kernel
theorem dX7_v_0 : decode cX7_v 0 = .ok (.aload_n 0, 1) := fo_dd DX7_v_0 0 rfl
theorem dX7_v_1 : decode cX7_v 1 = .ok (.getfield 7, 3) := fo_dd DX7_v_0 1 rfl
theorem dX7_v_4 : decode cX7_v 4 = .ok (.bipush 22, 2) := fo_dd DX7_v_0 2 rfl
theorem dX7_v_6 : decode cX7_v 6 = .ok (.bipush 30, 2) := fo_dd DX7_v_0 3 rfl
theorem dX7_v_8 : decode cX7_v 8 = .ok (.iload_n 1, 1) := fo_dd DX7_v_0 4 rfl
theorem dX7_v_9 : decode cX7_v 9 = .ok (.imul, 1) := fo_dd DX7_v_0 5 rfl
theorem dX7_v_10 : decode cX7_v 10 = .ok (.iadd, 1) := fo_dd DX7_v_0 6 rfl
theorem dX7_v_11 : decode cX7_v 11 = .ok (.iload_n 2, 1) := fo_dd DX7_v_0 7 rfl
theorem dX7_v_12 : decode cX7_v 12 = .ok (.iadd, 1) := fo_dd DX7_v_0 8 rfl
theorem dX7_v_13 : decode cX7_v 13 = .ok (.iaload, 1) := fo_dd DX7_v_0 9 rfl
theorem dX7_v_14 : decode cX7_v 14 = .ok (.ireturn, 1) := fo_dd DX7_v_0 10 rfl
theorem DX7_daysOf_0 : fo_dl cX7_daysOf [(0, .aload_n 0, 1), (1, .getfield 7, 3), (4, .bipush 18, 2), (6, .iload_n 1, 1), (7, .iadd, 1), (8, .iaload, 1), (9, .ireturn, 1)] := by decide +kernel
theorem dX7_daysOf_0 : decode cX7_daysOf 0 = .ok (.aload_n 0, 1) := fo_dd DX7_daysOf_0 0 rfl
theorem dX7_daysOf_1 : decode cX7_daysOf 1 = .ok (.getfield 7, 3) := fo_dd DX7_daysOf_0 1 rfl
theorem dX7_daysOf_4 : decode cX7_daysOf 4 = .ok (.bipush 18, 2) := fo_dd DX7_daysOf_0 2 rfl
theorem dX7_daysOf_6 : decode cX7_daysOf 6 = .ok (.iload_n 1, 1) := fo_dd DX7_daysOf_0 3 rfl
theorem dX7_daysOf_7 : decode cX7_daysOf 7 = .ok (.iadd, 1) := fo_dd DX7_daysOf_0 4 rfl
theorem dX7_daysOf_8 : decode cX7_daysOf 8 = .ok (.iaload, 1) := fo_dd DX7_daysOf_0 5 rfl
theorem dX7_daysOf_9 : decode cX7_daysOf 9 = .ok (.ireturn, 1) := fo_dd DX7_daysOf_0 6 rfl
theorem DX7_isKind_0 : fo_dl cX7_isKind [(0, .iload_n 0, 1), (1, .bipush 108, 2), (3, .if_icmp .eq 27, 3), (6, .iload_n 0, 1), (7, .bipush 109, 2), (9, .if_icmp .eq 21, 3), (12, .iload_n 0, 1), (13, .bipush 100, 2), (15, .if_icmp .eq 15, 3), (18, .iload_n 0, 1), (19, .bipush 116, 2), (21, .if_icmp .eq 9, 3), (24, .iload_n 0, 1), (25, .bipush 115, 2), (27, .if_icmp .ne 7, 3), (30, .iconst 1, 1), (31, .goto 4, 3), (34, .iconst 0, 1), (35, .ireturn, 1)] := by decide +kernel
theorem dX7_isKind_0 : decode cX7_isKind 0 = .ok (.iload_n 0, 1) := fo_dd DX7_isKind_0 0 rfl
theorem dX7_isKind_1 : decode cX7_isKind 1 = .ok (.bipush 108, 2) := fo_dd DX7_isKind_0 1 rfl
theorem dX7_isKind_3 : decode cX7_isKind 3 = .ok (.if_icmp .eq 27, 3) := fo_dd DX7_isKind_0 2 rfl
theorem dX7_isKind_6 : decode cX7_isKind 6 = .ok (.iload_n 0, 1) := fo_dd DX7_isKind_0 3 rfl
theorem dX7_isKind_7 : decode cX7_isKind 7 = .ok (.bipush 109, 2) := fo_dd DX7_isKind_0 4 rfl
theorem dX7_isKind_9 : decode cX7_isKind 9 = .ok (.if_icmp .eq 21, 3) := fo_dd DX7_isKind_0 5 rfl
theorem dX7_isKind_12 : decode cX7_isKind 12 = .ok (.iload_n 0, 1) := fo_dd DX7_isKind_0 6 rfl
theorem dX7_isKind_13 : decode cX7_isKind 13 = .ok (.bipush 100, 2) := fo_dd DX7_isKind_0 7 rfl
theorem dX7_isKind_15 : decode cX7_isKind 15 = .ok (.if_icmp .eq 15, 3) := fo_dd DX7_isKind_0 8 rfl
theorem dX7_isKind_18 : decode cX7_isKind 18 = .ok (.iload_n 0, 1) := fo_dd DX7_isKind_0 9 rfl
theorem dX7_isKind_19 : decode cX7_isKind 19 = .ok (.bipush 116, 2) := fo_dd DX7_isKind_0 10 rfl
theorem dX7_isKind_21 : decode cX7_isKind 21 = .ok (.if_icmp .eq 9, 3) := fo_dd DX7_isKind_0 11 rfl
theorem dX7_isKind_24 : decode cX7_isKind 24 = .ok (.iload_n 0, 1) := fo_dd DX7_isKind_0 12 rfl
theorem dX7_isKind_25 : decode cX7_isKind 25 = .ok (.bipush 115, 2) := fo_dd DX7_isKind_0 13 rfl
theorem dX7_isKind_27 : decode cX7_isKind 27 = .ok (.if_icmp .ne 7, 3) := fo_dd DX7_isKind_0 14 rfl
theorem dX7_isKind_30 : decode cX7_isKind 30 = .ok (.iconst 1, 1) := fo_dd DX7_isKind_0 15 rfl
theorem dX7_isKind_31 : decode cX7_isKind 31 = .ok (.goto 4, 3) := fo_dd DX7_isKind_0 16 rfl
theorem dX7_isKind_34 : decode cX7_isKind 34 = .ok (.iconst 0, 1) := fo_dd DX7_isKind_0 17 rfl
theorem dX7_isKind_35 : decode cX7_isKind 35 = .ok (.ireturn, 1) := fo_dd DX7_isKind_0 18 rfl
theorem DX7_allDays_0 : fo_dl cX7_allDays [(0, .aload_n 0, 1), (1, .iconst 0, 1), (2, .invokevirtual 92, 3), (5, .aload_n 0, 1), (6, .iconst 1, 1), (7, .invokevirtual 92, 3), (10, .iadd, 1), (11, .aload_n 0, 1), (12, .iconst 2, 1), (13, .invokevirtual 92, 3), (16, .iadd, 1), (17, .aload_n 0, 1), (18, .iconst 3, 1), (19, .invokevirtual 92, 3), (22, .iadd, 1), (23, .ireturn, 1)] := by decide +kernel
theorem dX7_allDays_0 : decode cX7_allDays 0 = .ok (.aload_n 0, 1) := fo_dd DX7_allDays_0 0 rfl
theorem dX7_allDays_1 : decode cX7_allDays 1 = .ok (.iconst 0, 1) := fo_dd DX7_allDays_0 1 rfl
theorem dX7_allDays_2 : decode cX7_allDays 2 = .ok (.invokevirtual 92, 3) := fo_dd DX7_allDays_0 2 rfl
theorem dX7_allDays_5 : decode cX7_allDays 5 = .ok (.aload_n 0, 1) := fo_dd DX7_allDays_0 3 rfl
theorem dX7_allDays_6 : decode cX7_allDays 6 = .ok (.iconst 1, 1) := fo_dd DX7_allDays_0 4 rfl
theorem dX7_allDays_7 : decode cX7_allDays 7 = .ok (.invokevirtual 92, 3) := fo_dd DX7_allDays_0 5 rfl
theorem dX7_allDays_10 : decode cX7_allDays 10 = .ok (.iadd, 1) := fo_dd DX7_allDays_0 6 rfl
theorem dX7_allDays_11 : decode cX7_allDays 11 = .ok (.aload_n 0, 1) := fo_dd DX7_allDays_0 7 rfl
theorem dX7_allDays_12 : decode cX7_allDays 12 = .ok (.iconst 2, 1) := fo_dd DX7_allDays_0 8 rfl
theorem dX7_allDays_13 : decode cX7_allDays 13 = .ok (.invokevirtual 92, 3) := fo_dd DX7_allDays_0 9 rfl
theorem dX7_allDays_16 : decode cX7_allDays 16 = .ok (.iadd, 1) := fo_dd DX7_allDays_0 10 rfl
theorem dX7_allDays_17 : decode cX7_allDays 17 = .ok (.aload_n 0, 1) := fo_dd DX7_allDays_0 11 rfl
theorem dX7_allDays_18 : decode cX7_allDays 18 = .ok (.iconst 3, 1) := fo_dd DX7_allDays_0 12 rfl
theorem dX7_allDays_19 : decode cX7_allDays 19 = .ok (.invokevirtual 92, 3) := fo_dd DX7_allDays_0 13 rfl
theorem dX7_allDays_22 : decode cX7_allDays 22 = .ok (.iadd, 1) := fo_dd DX7_allDays_0 14 rfl
theorem dX7_allDays_23 : decode cX7_allDays 23 = .ok (.ireturn, 1) := fo_dd DX7_allDays_0 15 rfl
theorem DX7_cannotAdd_0 : fo_dl cX7_cannotAdd [(0, .iload_n 1, 1), (1, .invokestatic 96, 3), (4, .ifCond .eq 13, 3), (7, .iload_n 2, 1), (8, .iconst 1, 1), (9, .bipush 9, 2), (11, .invokestatic 88, 3), (14, .ifCond .ne 7, 3), (17, .iconst 1, 1), (18, .goto 26, 3), (21, .aload_n 0, 1), (22, .getfield 7, 3), (25, .iconst 0, 1), (26, .iaload, 1), (27, .bipush 8, 2), (29, .if_icmp .eq 10, 3), (32, .aload_n 0, 1), (33, .invokevirtual 100, 3), (36, .ifCond .le 7, 3), (39, .iconst 2, 1), (40, .goto 4, 3), (43, .iconst 0, 1), (44, .ireturn, 1)] := by decide +kernel
theorem dX7_cannotAdd_0 : decode cX7_cannotAdd 0 = .ok (.iload_n 1, 1) := fo_dd DX7_cannotAdd_0 0 rfl
theorem dX7_cannotAdd_1 : decode cX7_cannotAdd 1 = .ok (.invokestatic 96, 3) := fo_dd DX7_cannotAdd_0 1 rfl
theorem dX7_cannotAdd_4 : decode cX7_cannotAdd 4 = .ok (.ifCond .eq 13, 3) := fo_dd DX7_cannotAdd_0 2 rfl
theorem dX7_cannotAdd_7 : decode cX7_cannotAdd 7 = .ok (.iload_n 2, 1) := fo_dd DX7_cannotAdd_0 3 rfl
theorem dX7_cannotAdd_8 : decode cX7_cannotAdd 8 = .ok (.iconst 1, 1) := fo_dd DX7_cannotAdd_0 4 rfl
theorem dX7_cannotAdd_9 : decode cX7_cannotAdd 9 = .ok (.bipush 9, 2) := fo_dd DX7_cannotAdd_0 5 rfl
theorem dX7_cannotAdd_11 : decode cX7_cannotAdd 11 = .ok (.invokestatic 88, 3) := fo_dd DX7_cannotAdd_0 6 rfl
theorem dX7_cannotAdd_14 : decode cX7_cannotAdd 14 = .ok (.ifCond .ne 7, 3) := fo_dd DX7_cannotAdd_0 7 rfl
theorem dX7_cannotAdd_17 : decode cX7_cannotAdd 17 = .ok (.iconst 1, 1) := fo_dd DX7_cannotAdd_0 8 rfl
theorem dX7_cannotAdd_18 : decode cX7_cannotAdd 18 = .ok (.goto 26, 3) := fo_dd DX7_cannotAdd_0 9 rfl
theorem dX7_cannotAdd_21 : decode cX7_cannotAdd 21 = .ok (.aload_n 0, 1) := fo_dd DX7_cannotAdd_0 10 rfl
theorem dX7_cannotAdd_22 : decode cX7_cannotAdd 22 = .ok (.getfield 7, 3) := fo_dd DX7_cannotAdd_0 11 rfl
theorem dX7_cannotAdd_25 : decode cX7_cannotAdd 25 = .ok (.iconst 0, 1) := fo_dd DX7_cannotAdd_0 12 rfl
theorem dX7_cannotAdd_26 : decode cX7_cannotAdd 26 = .ok (.iaload, 1) := fo_dd DX7_cannotAdd_0 13 rfl
theorem dX7_cannotAdd_27 : decode cX7_cannotAdd 27 = .ok (.bipush 8, 2) := fo_dd DX7_cannotAdd_0 14 rfl
theorem dX7_cannotAdd_29 : decode cX7_cannotAdd 29 = .ok (.if_icmp .eq 10, 3) := fo_dd DX7_cannotAdd_0 15 rfl
theorem dX7_cannotAdd_32 : decode cX7_cannotAdd 32 = .ok (.aload_n 0, 1) := fo_dd DX7_cannotAdd_0 16 rfl
theorem dX7_cannotAdd_33 : decode cX7_cannotAdd 33 = .ok (.invokevirtual 100, 3) := fo_dd DX7_cannotAdd_0 17 rfl
theorem dX7_cannotAdd_36 : decode cX7_cannotAdd 36 = .ok (.ifCond .le 7, 3) := fo_dd DX7_cannotAdd_0 18 rfl
theorem dX7_cannotAdd_39 : decode cX7_cannotAdd 39 = .ok (.iconst 2, 1) := fo_dd DX7_cannotAdd_0 19 rfl
theorem dX7_cannotAdd_40 : decode cX7_cannotAdd 40 = .ok (.goto 4, 3) := fo_dd DX7_cannotAdd_0 20 rfl
theorem dX7_cannotAdd_43 : decode cX7_cannotAdd 43 = .ok (.iconst 0, 1) := fo_dd DX7_cannotAdd_0 21 rfl
theorem dX7_cannotAdd_44 : decode cX7_cannotAdd 44 = .ok (.ireturn, 1) := fo_dd DX7_cannotAdd_0 22 rfl
theorem DX7_adds_0 : fo_dl cX7_adds [(0, .aload_n 0, 1), (1, .getfield 7, 3), (4, .iconst 2, 1), (5, .aload_n 0, 1), (6, .getfield 7, 3), (9, .iconst 0, 1), (10, .iaload, 1), (11, .iadd, 1), (12, .iload_n 1, 1), (13, .iastore, 1), (14, .aload_n 0, 1), (15, .getfield 7, 3), (18, .bipush 10, 2), (20, .aload_n 0, 1), (21, .getfield 7, 3), (24, .iconst 0, 1), (25, .iaload, 1), (26, .iadd, 1), (27, .iload_n 2, 1), (28, .iastore, 1), (29, .aload_n 0, 1), (30, .getfield 7, 3), (33, .iconst 0, 1), (34, .dup2, 1), (35, .iaload, 1), (36, .iconst 1, 1), (37, .iadd, 1), (38, .iastore, 1), (39, .aload_n 0, 1), (40, .getfield 7, 3), (43, .iconst 0, 1), (44, .iaload, 1), (45, .iconst 1, 1), (46, .isub, 1), (47, .ireturn, 1)] := by decide +kernel
theorem dX7_adds_0 : decode cX7_adds 0 = .ok (.aload_n 0, 1) := fo_dd DX7_adds_0 0 rfl
theorem dX7_adds_1 : decode cX7_adds 1 = .ok (.getfield 7, 3) := fo_dd DX7_adds_0 1 rfl
theorem dX7_adds_4 : decode cX7_adds 4 = .ok (.iconst 2, 1) := fo_dd DX7_adds_0 2 rfl
theorem dX7_adds_5 : decode cX7_adds 5 = .ok (.aload_n 0, 1) := fo_dd DX7_adds_0 3 rfl
theorem dX7_adds_6 : decode cX7_adds 6 = .ok (.getfield 7, 3) := fo_dd DX7_adds_0 4 rfl
theorem dX7_adds_9 : decode cX7_adds 9 = .ok (.iconst 0, 1) := fo_dd DX7_adds_0 5 rfl
theorem dX7_adds_10 : decode cX7_adds 10 = .ok (.iaload, 1) := fo_dd DX7_adds_0 6 rfl
theorem dX7_adds_11 : decode cX7_adds 11 = .ok (.iadd, 1) := fo_dd DX7_adds_0 7 rfl
theorem dX7_adds_12 : decode cX7_adds 12 = .ok (.iload_n 1, 1) := fo_dd DX7_adds_0 8 rfl
theorem dX7_adds_13 : decode cX7_adds 13 = .ok (.iastore, 1) := fo_dd DX7_adds_0 9 rfl
theorem dX7_adds_14 : decode cX7_adds 14 = .ok (.aload_n 0, 1) := fo_dd DX7_adds_0 10 rfl
theorem dX7_adds_15 : decode cX7_adds 15 = .ok (.getfield 7, 3) := fo_dd DX7_adds_0 11 rfl
theorem dX7_adds_18 : decode cX7_adds 18 = .ok (.bipush 10, 2) := fo_dd DX7_adds_0 12 rfl
theorem dX7_adds_20 : decode cX7_adds 20 = .ok (.aload_n 0, 1) := fo_dd DX7_adds_0 13 rfl
theorem dX7_adds_21 : decode cX7_adds 21 = .ok (.getfield 7, 3) := fo_dd DX7_adds_0 14 rfl
theorem dX7_adds_24 : decode cX7_adds 24 = .ok (.iconst 0, 1) := fo_dd DX7_adds_0 15 rfl
theorem dX7_adds_25 : decode cX7_adds 25 = .ok (.iaload, 1) := fo_dd DX7_adds_0 16 rfl
theorem dX7_adds_26 : decode cX7_adds 26 = .ok (.iadd, 1) := fo_dd DX7_adds_0 17 rfl
theorem dX7_adds_27 : decode cX7_adds 27 = .ok (.iload_n 2, 1) := fo_dd DX7_adds_0 18 rfl
theorem dX7_adds_28 : decode cX7_adds 28 = .ok (.iastore, 1) := fo_dd DX7_adds_0 19 rfl
theorem dX7_adds_29 : decode cX7_adds 29 = .ok (.aload_n 0, 1) := fo_dd DX7_adds_0 20 rfl
theorem dX7_adds_30 : decode cX7_adds 30 = .ok (.getfield 7, 3) := fo_dd DX7_adds_0 21 rfl
theorem dX7_adds_33 : decode cX7_adds 33 = .ok (.iconst 0, 1) := fo_dd DX7_adds_0 22 rfl
theorem dX7_adds_34 : decode cX7_adds 34 = .ok (.dup2, 1) := fo_dd DX7_adds_0 23 rfl
theorem dX7_adds_35 : decode cX7_adds 35 = .ok (.iaload, 1) := fo_dd DX7_adds_0 24 rfl
theorem dX7_adds_36 : decode cX7_adds 36 = .ok (.iconst 1, 1) := fo_dd DX7_adds_0 25 rfl
theorem dX7_adds_37 : decode cX7_adds 37 = .ok (.iadd, 1) := fo_dd DX7_adds_0 26 rfl
theorem dX7_adds_38 : decode cX7_adds 38 = .ok (.iastore, 1) := fo_dd DX7_adds_0 27 rfl
theorem dX7_adds_39 : decode cX7_adds 39 = .ok (.aload_n 0, 1) := fo_dd DX7_adds_0 28 rfl
theorem dX7_adds_40 : decode cX7_adds 40 = .ok (.getfield 7, 3) := fo_dd DX7_adds_0 29 rfl
theorem dX7_adds_43 : decode cX7_adds 43 = .ok (.iconst 0, 1) := fo_dd DX7_adds_0 30 rfl
theorem dX7_adds_44 : decode cX7_adds 44 = .ok (.iaload, 1) := fo_dd DX7_adds_0 31 rfl
theorem dX7_adds_45 : decode cX7_adds 45 = .ok (.iconst 1, 1) := fo_dd DX7_adds_0 32 rfl
theorem dX7_adds_46 : decode cX7_adds 46 = .ok (.isub, 1) := fo_dd DX7_adds_0 33 rfl
theorem dX7_adds_47 : decode cX7_adds 47 = .ok (.ireturn, 1) := fo_dd DX7_adds_0 34 rfl
theorem DX7_addProphet_0 : fo_dl cX7_addProphet [(0, .aload_n 0, 1), (1, .invokevirtual 104, 3), (4, .aload_n 0, 1), (5, .iload_n 1, 1), (6, .iload_n 2, 1), (7, .invokevirtual 107, 3), (10, .istore_n 3, 1), (11, .iload_n 3, 1), (12, .ifCond .le 11, 3), (15, .aload_n 0, 1), (16, .iload_n 3, 1), (17, .invokevirtual 111, 3), (20, .goto 13, 3), (23, .aload_n 0, 1), (24, .aload_n 0, 1), (25, .iload_n 1, 1), (26, .iload_n 2, 1), (27, .invokevirtual 114, 3), (30, .invokevirtual 117, 3), (33, .ireturn, 1)] := by decide +kernel
theorem dX7_addProphet_0 : decode cX7_addProphet 0 = .ok (.aload_n 0, 1) := fo_dd DX7_addProphet_0 0 rfl
theorem dX7_addProphet_1 : decode cX7_addProphet 1 = .ok (.invokevirtual 104, 3) := fo_dd DX7_addProphet_0 1 rfl
theorem dX7_addProphet_4 : decode cX7_addProphet 4 = .ok (.aload_n 0, 1) := fo_dd DX7_addProphet_0 2 rfl
theorem dX7_addProphet_5 : decode cX7_addProphet 5 = .ok (.iload_n 1, 1) := fo_dd DX7_addProphet_0 3 rfl
theorem dX7_addProphet_6 : decode cX7_addProphet 6 = .ok (.iload_n 2, 1) := fo_dd DX7_addProphet_0 4 rfl
theorem dX7_addProphet_7 : decode cX7_addProphet 7 = .ok (.invokevirtual 107, 3) := fo_dd DX7_addProphet_0 5 rfl
theorem dX7_addProphet_10 : decode cX7_addProphet 10 = .ok (.istore_n 3, 1) := fo_dd DX7_addProphet_0 6 rfl
theorem dX7_addProphet_11 : decode cX7_addProphet 11 = .ok (.iload_n 3, 1) := fo_dd DX7_addProphet_0 7 rfl
theorem dX7_addProphet_12 : decode cX7_addProphet 12 = .ok (.ifCond .le 11, 3) := fo_dd DX7_addProphet_0 8 rfl
theorem dX7_addProphet_15 : decode cX7_addProphet 15 = .ok (.aload_n 0, 1) := fo_dd DX7_addProphet_0 9 rfl
theorem dX7_addProphet_16 : decode cX7_addProphet 16 = .ok (.iload_n 3, 1) := fo_dd DX7_addProphet_0 10 rfl
theorem dX7_addProphet_17 : decode cX7_addProphet 17 = .ok (.invokevirtual 111, 3) := fo_dd DX7_addProphet_0 11 rfl
theorem dX7_addProphet_20 : decode cX7_addProphet 20 = .ok (.goto 13, 3) := fo_dd DX7_addProphet_0 12 rfl
theorem dX7_addProphet_23 : decode cX7_addProphet 23 = .ok (.aload_n 0, 1) := fo_dd DX7_addProphet_0 13 rfl
theorem dX7_addProphet_24 : decode cX7_addProphet 24 = .ok (.aload_n 0, 1) := fo_dd DX7_addProphet_0 14 rfl
theorem dX7_addProphet_25 : decode cX7_addProphet 25 = .ok (.iload_n 1, 1) := fo_dd DX7_addProphet_0 15 rfl
theorem dX7_addProphet_26 : decode cX7_addProphet 26 = .ok (.iload_n 2, 1) := fo_dd DX7_addProphet_0 16 rfl
theorem dX7_addProphet_27 : decode cX7_addProphet 27 = .ok (.invokevirtual 114, 3) := fo_dd DX7_addProphet_0 17 rfl
theorem dX7_addProphet_30 : decode cX7_addProphet 30 = .ok (.invokevirtual 117, 3) := fo_dd DX7_addProphet_0 18 rfl
theorem dX7_addProphet_33 : decode cX7_addProphet 33 = .ok (.ireturn, 1) := fo_dd DX7_addProphet_0 19 rfl
theorem DX7_cannotSee_0 : fo_dl cX7_cannotSee [(0, .iload_n 1, 1), (1, .invokestatic 120, 3), (4, .ifCond .ne 7, 3), (7, .iconst 1, 1), (8, .goto 33, 3), (11, .iload_n 2, 1), (12, .iconst 0, 1), (13, .sipush 999, 3), (16, .invokestatic 88, 3), (19, .ifCond .ne 7, 3), (22, .iconst 2, 1), (23, .goto 18, 3), (26, .aload_n 0, 1), (27, .iload_n 1, 1), (28, .invokevirtual 92, 3), (31, .bipush 30, 2), (33, .if_icmp .ne 7, 3), (36, .iconst 3, 1), (37, .goto 4, 3), (40, .iconst 0, 1), (41, .ireturn, 1)] := by decide +kernel
theorem dX7_cannotSee_0 : decode cX7_cannotSee 0 = .ok (.iload_n 1, 1) := fo_dd DX7_cannotSee_0 0 rfl
theorem dX7_cannotSee_1 : decode cX7_cannotSee 1 = .ok (.invokestatic 120, 3) := fo_dd DX7_cannotSee_0 1 rfl
theorem dX7_cannotSee_4 : decode cX7_cannotSee 4 = .ok (.ifCond .ne 7, 3) := fo_dd DX7_cannotSee_0 2 rfl
theorem dX7_cannotSee_7 : decode cX7_cannotSee 7 = .ok (.iconst 1, 1) := fo_dd DX7_cannotSee_0 3 rfl
theorem dX7_cannotSee_8 : decode cX7_cannotSee 8 = .ok (.goto 33, 3) := fo_dd DX7_cannotSee_0 4 rfl
theorem dX7_cannotSee_11 : decode cX7_cannotSee 11 = .ok (.iload_n 2, 1) := fo_dd DX7_cannotSee_0 5 rfl
theorem dX7_cannotSee_12 : decode cX7_cannotSee 12 = .ok (.iconst 0, 1) := fo_dd DX7_cannotSee_0 6 rfl
theorem dX7_cannotSee_13 : decode cX7_cannotSee 13 = .ok (.sipush 999, 3) := fo_dd DX7_cannotSee_0 7 rfl
theorem dX7_cannotSee_16 : decode cX7_cannotSee 16 = .ok (.invokestatic 88, 3) := fo_dd DX7_cannotSee_0 8 rfl
theorem dX7_cannotSee_19 : decode cX7_cannotSee 19 = .ok (.ifCond .ne 7, 3) := fo_dd DX7_cannotSee_0 9 rfl
theorem dX7_cannotSee_22 : decode cX7_cannotSee 22 = .ok (.iconst 2, 1) := fo_dd DX7_cannotSee_0 10 rfl
theorem dX7_cannotSee_23 : decode cX7_cannotSee 23 = .ok (.goto 18, 3) := fo_dd DX7_cannotSee_0 11 rfl
theorem dX7_cannotSee_26 : decode cX7_cannotSee 26 = .ok (.aload_n 0, 1) := fo_dd DX7_cannotSee_0 12 rfl
theorem dX7_cannotSee_27 : decode cX7_cannotSee 27 = .ok (.iload_n 1, 1) := fo_dd DX7_cannotSee_0 13 rfl
theorem dX7_cannotSee_28 : decode cX7_cannotSee 28 = .ok (.invokevirtual 92, 3) := fo_dd DX7_cannotSee_0 14 rfl
theorem dX7_cannotSee_31 : decode cX7_cannotSee 31 = .ok (.bipush 30, 2) := fo_dd DX7_cannotSee_0 15 rfl
theorem dX7_cannotSee_33 : decode cX7_cannotSee 33 = .ok (.if_icmp .ne 7, 3) := fo_dd DX7_cannotSee_0 16 rfl
theorem dX7_cannotSee_36 : decode cX7_cannotSee 36 = .ok (.iconst 3, 1) := fo_dd DX7_cannotSee_0 17 rfl
theorem dX7_cannotSee_37 : decode cX7_cannotSee 37 = .ok (.goto 4, 3) := fo_dd DX7_cannotSee_0 18 rfl
theorem dX7_cannotSee_40 : decode cX7_cannotSee 40 = .ok (.iconst 0, 1) := fo_dd DX7_cannotSee_0 19 rfl
theorem dX7_cannotSee_41 : decode cX7_cannotSee 41 = .ok (.ireturn, 1) := fo_dd DX7_cannotSee_0 20 rfl
theorem DX7_sees_0 : fo_dl cX7_sees [(0, .aload_n 0, 1), (1, .iload_n 1, 1), (2, .invokevirtual 92, 3), (5, .istore_n 3, 1), (6, .aload_n 0, 1), (7, .getfield 7, 3), (10, .bipush 22, 2), (12, .bipush 30, 2), (14, .iload_n 1, 1), (15, .imul, 1), (16, .iadd, 1), (17, .iload_n 3, 1), (18, .iadd, 1), (19, .iload_n 2, 1), (20, .iastore, 1), (21, .aload_n 0, 1), (22, .getfield 7, 3), (25, .bipush 18, 2), (27, .iload_n 1, 1), (28, .iadd, 1), (29, .dup2, 1), (30, .iaload, 1), (31, .iconst 1, 1), (32, .iadd, 1), (33, .iastore, 1), (34, .iload_n 3, 1), (35, .ireturn, 1)] := by decide +kernel
theorem dX7_sees_0 : decode cX7_sees 0 = .ok (.aload_n 0, 1) := fo_dd DX7_sees_0 0 rfl
theorem dX7_sees_1 : decode cX7_sees 1 = .ok (.iload_n 1, 1) := fo_dd DX7_sees_0 1 rfl
theorem dX7_sees_2 : decode cX7_sees 2 = .ok (.invokevirtual 92, 3) := fo_dd DX7_sees_0 2 rfl
theorem dX7_sees_5 : decode cX7_sees 5 = .ok (.istore_n 3, 1) := fo_dd DX7_sees_0 3 rfl
theorem dX7_sees_6 : decode cX7_sees 6 = .ok (.aload_n 0, 1) := fo_dd DX7_sees_0 4 rfl
theorem dX7_sees_7 : decode cX7_sees 7 = .ok (.getfield 7, 3) := fo_dd DX7_sees_0 5 rfl
theorem dX7_sees_10 : decode cX7_sees 10 = .ok (.bipush 22, 2) := fo_dd DX7_sees_0 6 rfl
theorem dX7_sees_12 : decode cX7_sees 12 = .ok (.bipush 30, 2) := fo_dd DX7_sees_0 7 rfl
theorem dX7_sees_14 : decode cX7_sees 14 = .ok (.iload_n 1, 1) := fo_dd DX7_sees_0 8 rfl
theorem dX7_sees_15 : decode cX7_sees 15 = .ok (.imul, 1) := fo_dd DX7_sees_0 9 rfl
theorem dX7_sees_16 : decode cX7_sees 16 = .ok (.iadd, 1) := fo_dd DX7_sees_0 10 rfl
theorem dX7_sees_17 : decode cX7_sees 17 = .ok (.iload_n 3, 1) := fo_dd DX7_sees_0 11 rfl
theorem dX7_sees_18 : decode cX7_sees 18 = .ok (.iadd, 1) := fo_dd DX7_sees_0 12 rfl
theorem dX7_sees_19 : decode cX7_sees 19 = .ok (.iload_n 2, 1) := fo_dd DX7_sees_0 13 rfl
theorem dX7_sees_20 : decode cX7_sees 20 = .ok (.iastore, 1) := fo_dd DX7_sees_0 14 rfl
theorem dX7_sees_21 : decode cX7_sees 21 = .ok (.aload_n 0, 1) := fo_dd DX7_sees_0 15 rfl
theorem dX7_sees_22 : decode cX7_sees 22 = .ok (.getfield 7, 3) := fo_dd DX7_sees_0 16 rfl
theorem dX7_sees_25 : decode cX7_sees 25 = .ok (.bipush 18, 2) := fo_dd DX7_sees_0 17 rfl
theorem dX7_sees_27 : decode cX7_sees 27 = .ok (.iload_n 1, 1) := fo_dd DX7_sees_0 18 rfl
theorem dX7_sees_28 : decode cX7_sees 28 = .ok (.iadd, 1) := fo_dd DX7_sees_0 19 rfl
theorem dX7_sees_29 : decode cX7_sees 29 = .ok (.dup2, 1) := fo_dd DX7_sees_0 20 rfl
theorem dX7_sees_30 : decode cX7_sees 30 = .ok (.iaload, 1) := fo_dd DX7_sees_0 21 rfl
theorem dX7_sees_31 : decode cX7_sees 31 = .ok (.iconst 1, 1) := fo_dd DX7_sees_0 22 rfl
theorem dX7_sees_32 : decode cX7_sees 32 = .ok (.iadd, 1) := fo_dd DX7_sees_0 23 rfl
theorem dX7_sees_33 : decode cX7_sees 33 = .ok (.iastore, 1) := fo_dd DX7_sees_0 24 rfl
theorem dX7_sees_34 : decode cX7_sees 34 = .ok (.iload_n 3, 1) := fo_dd DX7_sees_0 25 rfl
theorem dX7_sees_35 : decode cX7_sees 35 = .ok (.ireturn, 1) := fo_dd DX7_sees_0 26 rfl
theorem DX7_observe_0 : fo_dl cX7_observe [(0, .aload_n 0, 1), (1, .invokevirtual 104, 3), (4, .aload_n 0, 1), (5, .iload_n 1, 1), (6, .iload_n 2, 1), (7, .invokevirtual 123, 3), (10, .istore_n 3, 1), (11, .iload_n 3, 1), (12, .ifCond .le 11, 3), (15, .aload_n 0, 1), (16, .iload_n 3, 1), (17, .invokevirtual 111, 3), (20, .goto 13, 3), (23, .aload_n 0, 1), (24, .aload_n 0, 1), (25, .iload_n 1, 1), (26, .iload_n 2, 1), (27, .invokevirtual 126, 3), (30, .invokevirtual 117, 3), (33, .ireturn, 1)] := by decide +kernel
theorem dX7_observe_0 : decode cX7_observe 0 = .ok (.aload_n 0, 1) := fo_dd DX7_observe_0 0 rfl
theorem dX7_observe_1 : decode cX7_observe 1 = .ok (.invokevirtual 104, 3) := fo_dd DX7_observe_0 1 rfl
theorem dX7_observe_4 : decode cX7_observe 4 = .ok (.aload_n 0, 1) := fo_dd DX7_observe_0 2 rfl
theorem dX7_observe_5 : decode cX7_observe 5 = .ok (.iload_n 1, 1) := fo_dd DX7_observe_0 3 rfl
theorem dX7_observe_6 : decode cX7_observe 6 = .ok (.iload_n 2, 1) := fo_dd DX7_observe_0 4 rfl
theorem dX7_observe_7 : decode cX7_observe 7 = .ok (.invokevirtual 123, 3) := fo_dd DX7_observe_0 5 rfl
theorem dX7_observe_10 : decode cX7_observe 10 = .ok (.istore_n 3, 1) := fo_dd DX7_observe_0 6 rfl
theorem dX7_observe_11 : decode cX7_observe 11 = .ok (.iload_n 3, 1) := fo_dd DX7_observe_0 7 rfl
theorem dX7_observe_12 : decode cX7_observe 12 = .ok (.ifCond .le 11, 3) := fo_dd DX7_observe_0 8 rfl
theorem dX7_observe_15 : decode cX7_observe 15 = .ok (.aload_n 0, 1) := fo_dd DX7_observe_0 9 rfl
theorem dX7_observe_16 : decode cX7_observe 16 = .ok (.iload_n 3, 1) := fo_dd DX7_observe_0 10 rfl
theorem dX7_observe_17 : decode cX7_observe 17 = .ok (.invokevirtual 111, 3) := fo_dd DX7_observe_0 11 rfl
theorem dX7_observe_20 : decode cX7_observe 20 = .ok (.goto 13, 3) := fo_dd DX7_observe_0 12 rfl
theorem dX7_observe_23 : decode cX7_observe 23 = .ok (.aload_n 0, 1) := fo_dd DX7_observe_0 13 rfl
theorem dX7_observe_24 : decode cX7_observe 24 = .ok (.aload_n 0, 1) := fo_dd DX7_observe_0 14 rfl
theorem dX7_observe_25 : decode cX7_observe 25 = .ok (.iload_n 1, 1) := fo_dd DX7_observe_0 15 rfl
theorem dX7_observe_26 : decode cX7_observe 26 = .ok (.iload_n 2, 1) := fo_dd DX7_observe_0 16 rfl
theorem dX7_observe_27 : decode cX7_observe 27 = .ok (.invokevirtual 126, 3) := fo_dd DX7_observe_0 17 rfl
theorem dX7_observe_30 : decode cX7_observe 30 = .ok (.invokevirtual 117, 3) := fo_dd DX7_observe_0 18 rfl
theorem dX7_observe_33 : decode cX7_observe 33 = .ok (.ireturn, 1) := fo_dd DX7_observe_0 19 rfl
theorem DX7_limits_0 : fo_dl cX7_limits [(0, .aload_n 0, 1), (1, .getfield 7, 3), (4, .iconst 1, 1), (5, .iaload, 1), (6, .istore_n 2, 1), (7, .aload_n 0, 1), (8, .getfield 7, 3), (11, .iconst 1, 1), (12, .iload_n 1, 1), (13, .iastore, 1), (14, .iload_n 2, 1), (15, .ireturn, 1)] := by decide +kernel
theorem dX7_limits_0 : decode cX7_limits 0 = .ok (.aload_n 0, 1) := fo_dd DX7_limits_0 0 rfl
theorem dX7_limits_1 : decode cX7_limits 1 = .ok (.getfield 7, 3) := fo_dd DX7_limits_0 1 rfl
theorem dX7_limits_4 : decode cX7_limits 4 = .ok (.iconst 1, 1) := fo_dd DX7_limits_0 2 rfl
theorem dX7_limits_5 : decode cX7_limits 5 = .ok (.iaload, 1) := fo_dd DX7_limits_0 3 rfl
theorem dX7_limits_6 : decode cX7_limits 6 = .ok (.istore_n 2, 1) := fo_dd DX7_limits_0 4 rfl
theorem dX7_limits_7 : decode cX7_limits 7 = .ok (.aload_n 0, 1) := fo_dd DX7_limits_0 5 rfl
theorem dX7_limits_8 : decode cX7_limits 8 = .ok (.getfield 7, 3) := fo_dd DX7_limits_0 6 rfl
theorem dX7_limits_11 : decode cX7_limits 11 = .ok (.iconst 1, 1) := fo_dd DX7_limits_0 7 rfl
theorem dX7_limits_12 : decode cX7_limits 12 = .ok (.iload_n 1, 1) := fo_dd DX7_limits_0 8 rfl
theorem dX7_limits_13 : decode cX7_limits 13 = .ok (.iastore, 1) := fo_dd DX7_limits_0 9 rfl
theorem dX7_limits_14 : decode cX7_limits 14 = .ok (.iload_n 2, 1) := fo_dd DX7_limits_0 10 rfl
theorem dX7_limits_15 : decode cX7_limits 15 = .ok (.ireturn, 1) := fo_dd DX7_limits_0 11 rfl
theorem DX7_setLimit_0 : fo_dl cX7_setLimit [(0, .aload_n 0, 1), (1, .invokevirtual 104, 3), (4, .iload_n 1, 1), (5, .iconst 1, 1), (6, .bipush 9, 2), (8, .invokestatic 88, 3), (11, .ifCond .eq 15, 3), (14, .aload_n 0, 1), (15, .aload_n 0, 1), (16, .iload_n 1, 1), (17, .invokevirtual 129, 3), (20, .invokevirtual 117, 3), (23, .goto 8, 3), (26, .aload_n 0, 1), (27, .iconst 1, 1), (28, .invokevirtual 111, 3), (31, .ireturn, 1)] := by decide +kernel
theorem dX7_setLimit_0 : decode cX7_setLimit 0 = .ok (.aload_n 0, 1) := fo_dd DX7_setLimit_0 0 rfl
theorem dX7_setLimit_1 : decode cX7_setLimit 1 = .ok (.invokevirtual 104, 3) := fo_dd DX7_setLimit_0 1 rfl
theorem dX7_setLimit_4 : decode cX7_setLimit 4 = .ok (.iload_n 1, 1) := fo_dd DX7_setLimit_0 2 rfl
theorem dX7_setLimit_5 : decode cX7_setLimit 5 = .ok (.iconst 1, 1) := fo_dd DX7_setLimit_0 3 rfl
theorem dX7_setLimit_6 : decode cX7_setLimit 6 = .ok (.bipush 9, 2) := fo_dd DX7_setLimit_0 4 rfl
theorem dX7_setLimit_8 : decode cX7_setLimit 8 = .ok (.invokestatic 88, 3) := fo_dd DX7_setLimit_0 5 rfl
theorem dX7_setLimit_11 : decode cX7_setLimit 11 = .ok (.ifCond .eq 15, 3) := fo_dd DX7_setLimit_0 6 rfl
theorem dX7_setLimit_14 : decode cX7_setLimit 14 = .ok (.aload_n 0, 1) := fo_dd DX7_setLimit_0 7 rfl
theorem dX7_setLimit_15 : decode cX7_setLimit 15 = .ok (.aload_n 0, 1) := fo_dd DX7_setLimit_0 8 rfl
theorem dX7_setLimit_16 : decode cX7_setLimit 16 = .ok (.iload_n 1, 1) := fo_dd DX7_setLimit_0 9 rfl
theorem dX7_setLimit_17 : decode cX7_setLimit 17 = .ok (.invokevirtual 129, 3) := fo_dd DX7_setLimit_0 10 rfl
theorem dX7_setLimit_20 : decode cX7_setLimit 20 = .ok (.invokevirtual 117, 3) := fo_dd DX7_setLimit_0 11 rfl
theorem dX7_setLimit_23 : decode cX7_setLimit 23 = .ok (.goto 8, 3) := fo_dd DX7_setLimit_0 12 rfl
theorem dX7_setLimit_26 : decode cX7_setLimit 26 = .ok (.aload_n 0, 1) := fo_dd DX7_setLimit_0 13 rfl
theorem dX7_setLimit_27 : decode cX7_setLimit 27 = .ok (.iconst 1, 1) := fo_dd DX7_setLimit_0 14 rfl
theorem dX7_setLimit_28 : decode cX7_setLimit 28 = .ok (.invokevirtual 111, 3) := fo_dd DX7_setLimit_0 15 rfl
theorem dX7_setLimit_31 : decode cX7_setLimit 31 = .ok (.ireturn, 1) := fo_dd DX7_setLimit_0 16 rfl
theorem DX7_forgets_0 : fo_dl cX7_forgets [(0, .aload_n 0, 1), (1, .iload_n 1, 1), (2, .invokevirtual 92, 3), (5, .istore_n 2, 1), (6, .aload_n 0, 1), (7, .getfield 7, 3), (10, .bipush 18, 2), (12, .iload_n 1, 1), (13, .iadd, 1), (14, .iconst 0, 1), (15, .iastore, 1), (16, .iconst 0, 1), (17, .istore_n 3, 1), (18, .iload_n 3, 1), (19, .bipush 30, 2), (21, .if_icmp .ge 24, 3), (24, .aload_n 0, 1), (25, .getfield 7, 3), (28, .bipush 22, 2), (30, .bipush 30, 2), (32, .iload_n 1, 1), (33, .imul, 1), (34, .iadd, 1), (35, .iload_n 3, 1), (36, .iadd, 1), (37, .iconst 0, 1), (38, .iastore, 1), (39, .iinc 3 1, 3), (42, .goto (-24), 3), (45, .iload_n 2, 1), (46, .ireturn, 1)] := by decide +kernel
theorem dX7_forgets_0 : decode cX7_forgets 0 = .ok (.aload_n 0, 1) := fo_dd DX7_forgets_0 0 rfl
theorem dX7_forgets_1 : decode cX7_forgets 1 = .ok (.iload_n 1, 1) := fo_dd DX7_forgets_0 1 rfl
theorem dX7_forgets_2 : decode cX7_forgets 2 = .ok (.invokevirtual 92, 3) := fo_dd DX7_forgets_0 2 rfl
theorem dX7_forgets_5 : decode cX7_forgets 5 = .ok (.istore_n 2, 1) := fo_dd DX7_forgets_0 3 rfl
theorem dX7_forgets_6 : decode cX7_forgets 6 = .ok (.aload_n 0, 1) := fo_dd DX7_forgets_0 4 rfl
theorem dX7_forgets_7 : decode cX7_forgets 7 = .ok (.getfield 7, 3) := fo_dd DX7_forgets_0 5 rfl
theorem dX7_forgets_10 : decode cX7_forgets 10 = .ok (.bipush 18, 2) := fo_dd DX7_forgets_0 6 rfl
theorem dX7_forgets_12 : decode cX7_forgets 12 = .ok (.iload_n 1, 1) := fo_dd DX7_forgets_0 7 rfl
theorem dX7_forgets_13 : decode cX7_forgets 13 = .ok (.iadd, 1) := fo_dd DX7_forgets_0 8 rfl
theorem dX7_forgets_14 : decode cX7_forgets 14 = .ok (.iconst 0, 1) := fo_dd DX7_forgets_0 9 rfl
theorem dX7_forgets_15 : decode cX7_forgets 15 = .ok (.iastore, 1) := fo_dd DX7_forgets_0 10 rfl
theorem dX7_forgets_16 : decode cX7_forgets 16 = .ok (.iconst 0, 1) := fo_dd DX7_forgets_0 11 rfl
theorem dX7_forgets_17 : decode cX7_forgets 17 = .ok (.istore_n 3, 1) := fo_dd DX7_forgets_0 12 rfl
theorem dX7_forgets_18 : decode cX7_forgets 18 = .ok (.iload_n 3, 1) := fo_dd DX7_forgets_0 13 rfl
theorem dX7_forgets_19 : decode cX7_forgets 19 = .ok (.bipush 30, 2) := fo_dd DX7_forgets_0 14 rfl
theorem dX7_forgets_21 : decode cX7_forgets 21 = .ok (.if_icmp .ge 24, 3) := fo_dd DX7_forgets_0 15 rfl
theorem dX7_forgets_24 : decode cX7_forgets 24 = .ok (.aload_n 0, 1) := fo_dd DX7_forgets_0 16 rfl
theorem dX7_forgets_25 : decode cX7_forgets 25 = .ok (.getfield 7, 3) := fo_dd DX7_forgets_0 17 rfl
theorem dX7_forgets_28 : decode cX7_forgets 28 = .ok (.bipush 22, 2) := fo_dd DX7_forgets_0 18 rfl
theorem dX7_forgets_30 : decode cX7_forgets 30 = .ok (.bipush 30, 2) := fo_dd DX7_forgets_0 19 rfl
theorem dX7_forgets_32 : decode cX7_forgets 32 = .ok (.iload_n 1, 1) := fo_dd DX7_forgets_0 20 rfl
theorem dX7_forgets_33 : decode cX7_forgets 33 = .ok (.imul, 1) := fo_dd DX7_forgets_0 21 rfl
theorem dX7_forgets_34 : decode cX7_forgets 34 = .ok (.iadd, 1) := fo_dd DX7_forgets_0 22 rfl
theorem dX7_forgets_35 : decode cX7_forgets 35 = .ok (.iload_n 3, 1) := fo_dd DX7_forgets_0 23 rfl
theorem dX7_forgets_36 : decode cX7_forgets 36 = .ok (.iadd, 1) := fo_dd DX7_forgets_0 24 rfl
theorem dX7_forgets_37 : decode cX7_forgets 37 = .ok (.iconst 0, 1) := fo_dd DX7_forgets_0 25 rfl
theorem dX7_forgets_38 : decode cX7_forgets 38 = .ok (.iastore, 1) := fo_dd DX7_forgets_0 26 rfl
theorem dX7_forgets_39 : decode cX7_forgets 39 = .ok (.iinc 3 1, 3) := fo_dd DX7_forgets_0 27 rfl
theorem dX7_forgets_42 : decode cX7_forgets 42 = .ok (.goto (-24), 3) := fo_dd DX7_forgets_0 28 rfl
theorem dX7_forgets_45 : decode cX7_forgets 45 = .ok (.iload_n 2, 1) := fo_dd DX7_forgets_0 29 rfl
theorem dX7_forgets_46 : decode cX7_forgets 46 = .ok (.ireturn, 1) := fo_dd DX7_forgets_0 30 rfl
theorem DX7_forget_0 : fo_dl cX7_forget [(0, .aload_n 0, 1), (1, .invokevirtual 104, 3), (4, .iload_n 1, 1), (5, .invokestatic 120, 3), (8, .ifCond .eq 15, 3), (11, .aload_n 0, 1), (12, .aload_n 0, 1), (13, .iload_n 1, 1), (14, .invokevirtual 132, 3), (17, .invokevirtual 117, 3), (20, .goto 8, 3), (23, .aload_n 0, 1), (24, .iconst 1, 1), (25, .invokevirtual 111, 3), (28, .ireturn, 1)] := by decide +kernel
theorem dX7_forget_0 : decode cX7_forget 0 = .ok (.aload_n 0, 1) := fo_dd DX7_forget_0 0 rfl
theorem dX7_forget_1 : decode cX7_forget 1 = .ok (.invokevirtual 104, 3) := fo_dd DX7_forget_0 1 rfl
theorem dX7_forget_4 : decode cX7_forget 4 = .ok (.iload_n 1, 1) := fo_dd DX7_forget_0 2 rfl
theorem dX7_forget_5 : decode cX7_forget 5 = .ok (.invokestatic 120, 3) := fo_dd DX7_forget_0 3 rfl
theorem dX7_forget_8 : decode cX7_forget 8 = .ok (.ifCond .eq 15, 3) := fo_dd DX7_forget_0 4 rfl
theorem dX7_forget_11 : decode cX7_forget 11 = .ok (.aload_n 0, 1) := fo_dd DX7_forget_0 5 rfl
theorem dX7_forget_12 : decode cX7_forget 12 = .ok (.aload_n 0, 1) := fo_dd DX7_forget_0 6 rfl
theorem dX7_forget_13 : decode cX7_forget 13 = .ok (.iload_n 1, 1) := fo_dd DX7_forget_0 7 rfl
theorem dX7_forget_14 : decode cX7_forget 14 = .ok (.invokevirtual 132, 3) := fo_dd DX7_forget_0 8 rfl
theorem dX7_forget_17 : decode cX7_forget 17 = .ok (.invokevirtual 117, 3) := fo_dd DX7_forget_0 9 rfl
theorem dX7_forget_20 : decode cX7_forget 20 = .ok (.goto 8, 3) := fo_dd DX7_forget_0 10 rfl
theorem dX7_forget_23 : decode cX7_forget 23 = .ok (.aload_n 0, 1) := fo_dd DX7_forget_0 11 rfl
theorem dX7_forget_24 : decode cX7_forget 24 = .ok (.iconst 1, 1) := fo_dd DX7_forget_0 12 rfl
theorem dX7_forget_25 : decode cX7_forget 25 = .ok (.invokevirtual 111, 3) := fo_dd DX7_forget_0 13 rfl
theorem dX7_forget_28 : decode cX7_forget 28 = .ok (.ireturn, 1) := fo_dd DX7_forget_0 14 rfl
theorem DX7_plain_0 : fo_dl cX7_plain [(0, .aload_n 0, 1), (1, .iconst 0, 1), (2, .putfield 25, 3), (5, .iload_n 1, 1), (6, .ireturn, 1)] := by decide +kernel
theorem dX7_plain_0 : decode cX7_plain 0 = .ok (.aload_n 0, 1) := fo_dd DX7_plain_0 0 rfl
theorem dX7_plain_1 : decode cX7_plain 1 = .ok (.iconst 0, 1) := fo_dd DX7_plain_0 1 rfl
theorem dX7_plain_2 : decode cX7_plain 2 = .ok (.putfield 25, 3) := fo_dd DX7_plain_0 2 rfl
theorem dX7_plain_5 : decode cX7_plain 5 = .ok (.iload_n 1, 1) := fo_dd DX7_plain_0 3 rfl
theorem dX7_plain_6 : decode cX7_plain 6 = .ok (.ireturn, 1) := fo_dd DX7_plain_0 4 rfl
theorem DX7_checked_0 : fo_dl cX7_checked [(0, .aload_n 0, 1), (1, .iload_n 1, 1), (2, .ifCond .eq 7, 3), (5, .iconst 0, 1), (6, .goto 4, 3), (9, .iconst 1, 1), (10, .putfield 25, 3), (13, .aload_n 0, 1), (14, .getfield 25, 3), (17, .ireturn, 1)] := by decide +kernel
theorem dX7_checked_0 : decode cX7_checked 0 = .ok (.aload_n 0, 1) := fo_dd DX7_checked_0 0 rfl
theorem dX7_checked_1 : decode cX7_checked 1 = .ok (.iload_n 1, 1) := fo_dd DX7_checked_0 1 rfl
theorem dX7_checked_2 : decode cX7_checked 2 = .ok (.ifCond .eq 7, 3) := fo_dd DX7_checked_0 2 rfl
theorem dX7_checked_5 : decode cX7_checked 5 = .ok (.iconst 0, 1) := fo_dd DX7_checked_0 3 rfl
theorem dX7_checked_6 : decode cX7_checked 6 = .ok (.goto 4, 3) := fo_dd DX7_checked_0 4 rfl
theorem dX7_checked_9 : decode cX7_checked 9 = .ok (.iconst 1, 1) := fo_dd DX7_checked_0 5 rfl
theorem dX7_checked_10 : decode cX7_checked 10 = .ok (.putfield 25, 3) := fo_dd DX7_checked_0 6 rfl
theorem dX7_checked_13 : decode cX7_checked 13 = .ok (.aload_n 0, 1) := fo_dd DX7_checked_0 7 rfl
theorem dX7_checked_14 : decode cX7_checked 14 = .ok (.getfield 25, 3) := fo_dd DX7_checked_0 8 rfl
theorem dX7_checked_17 : decode cX7_checked 17 = .ok (.ireturn, 1) := fo_dd DX7_checked_0 9 rfl
theorem DX7_days_0 : fo_dl cX7_days [(0, .aload_n 0, 1), (1, .iload_n 1, 1), (2, .invokestatic 120, 3), (5, .invokevirtual 135, 3), (8, .ifCond .le 7, 3), (11, .iconst 0, 1), (12, .goto 8, 3), (15, .aload_n 0, 1), (16, .iload_n 1, 1), (17, .invokevirtual 92, 3), (20, .ireturn, 1)] := by decide +kernel
theorem dX7_days_0 : decode cX7_days 0 = .ok (.aload_n 0, 1) := fo_dd DX7_days_0 0 rfl
theorem dX7_days_1 : decode cX7_days 1 = .ok (.iload_n 1, 1) := fo_dd DX7_days_0 1 rfl
theorem dX7_days_2 : decode cX7_days 2 = .ok (.invokestatic 120, 3) := fo_dd DX7_days_0 2 rfl
theorem dX7_days_5 : decode cX7_days 5 = .ok (.invokevirtual 135, 3) := fo_dd DX7_days_0 3 rfl
theorem dX7_days_8 : decode cX7_days 8 = .ok (.ifCond .le 7, 3) := fo_dd DX7_days_0 4 rfl
theorem dX7_days_11 : decode cX7_days 11 = .ok (.iconst 0, 1) := fo_dd DX7_days_0 5 rfl
theorem dX7_days_12 : decode cX7_days 12 = .ok (.goto 8, 3) := fo_dd DX7_days_0 6 rfl
theorem dX7_days_15 : decode cX7_days 15 = .ok (.aload_n 0, 1) := fo_dd DX7_days_0 7 rfl
theorem dX7_days_16 : decode cX7_days 16 = .ok (.iload_n 1, 1) := fo_dd DX7_days_0 8 rfl
theorem dX7_days_17 : decode cX7_days 17 = .ok (.invokevirtual 92, 3) := fo_dd DX7_days_0 9 rfl
theorem dX7_days_20 : decode cX7_days 20 = .ok (.ireturn, 1) := fo_dd DX7_days_0 10 rfl
theorem DX7_noValue_0 : fo_dl cX7_noValue [(0, .iload_n 1, 1), (1, .invokestatic 120, 3), (4, .ifCond .ne 7, 3), (7, .iconst 1, 1), (8, .goto 23, 3), (11, .iload_n 2, 1), (12, .iconst 0, 1), (13, .aload_n 0, 1), (14, .iload_n 1, 1), (15, .invokevirtual 92, 3), (18, .iconst 1, 1), (19, .isub, 1), (20, .invokestatic 88, 3), (23, .ifCond .ne 7, 3), (26, .iconst 2, 1), (27, .goto 4, 3), (30, .iconst 0, 1), (31, .ireturn, 1)] := by decide +kernel
theorem dX7_noValue_0 : decode cX7_noValue 0 = .ok (.iload_n 1, 1) := fo_dd DX7_noValue_0 0 rfl
theorem dX7_noValue_1 : decode cX7_noValue 1 = .ok (.invokestatic 120, 3) := fo_dd DX7_noValue_0 1 rfl
theorem dX7_noValue_4 : decode cX7_noValue 4 = .ok (.ifCond .ne 7, 3) := fo_dd DX7_noValue_0 2 rfl
theorem dX7_noValue_7 : decode cX7_noValue 7 = .ok (.iconst 1, 1) := fo_dd DX7_noValue_0 3 rfl
theorem dX7_noValue_8 : decode cX7_noValue 8 = .ok (.goto 23, 3) := fo_dd DX7_noValue_0 4 rfl
theorem dX7_noValue_11 : decode cX7_noValue 11 = .ok (.iload_n 2, 1) := fo_dd DX7_noValue_0 5 rfl
theorem dX7_noValue_12 : decode cX7_noValue 12 = .ok (.iconst 0, 1) := fo_dd DX7_noValue_0 6 rfl
theorem dX7_noValue_13 : decode cX7_noValue 13 = .ok (.aload_n 0, 1) := fo_dd DX7_noValue_0 7 rfl
theorem dX7_noValue_14 : decode cX7_noValue 14 = .ok (.iload_n 1, 1) := fo_dd DX7_noValue_0 8 rfl
theorem dX7_noValue_15 : decode cX7_noValue 15 = .ok (.invokevirtual 92, 3) := fo_dd DX7_noValue_0 9 rfl
theorem dX7_noValue_18 : decode cX7_noValue 18 = .ok (.iconst 1, 1) := fo_dd DX7_noValue_0 10 rfl
theorem dX7_noValue_19 : decode cX7_noValue 19 = .ok (.isub, 1) := fo_dd DX7_noValue_0 11 rfl
theorem dX7_noValue_20 : decode cX7_noValue 20 = .ok (.invokestatic 88, 3) := fo_dd DX7_noValue_0 12 rfl
theorem dX7_noValue_23 : decode cX7_noValue 23 = .ok (.ifCond .ne 7, 3) := fo_dd DX7_noValue_0 13 rfl
theorem dX7_noValue_26 : decode cX7_noValue 26 = .ok (.iconst 2, 1) := fo_dd DX7_noValue_0 14 rfl
theorem dX7_noValue_27 : decode cX7_noValue 27 = .ok (.goto 4, 3) := fo_dd DX7_noValue_0 15 rfl
theorem dX7_noValue_30 : decode cX7_noValue 30 = .ok (.iconst 0, 1) := fo_dd DX7_noValue_0 16 rfl
theorem dX7_noValue_31 : decode cX7_noValue 31 = .ok (.ireturn, 1) := fo_dd DX7_noValue_0 17 rfl
theorem DX7_value_0 : fo_dl cX7_value [(0, .aload_n 0, 1), (1, .aload_n 0, 1), (2, .iload_n 1, 1), (3, .iload_n 2, 1), (4, .invokevirtual 139, 3), (7, .putfield 25, 3), (10, .aload_n 0, 1), (11, .getfield 25, 3), (14, .ifCond .le 7, 3), (17, .iconst 0, 1), (18, .goto 9, 3), (21, .aload_n 0, 1), (22, .iload_n 1, 1), (23, .iload_n 2, 1), (24, .invokevirtual 142, 3), (27, .ireturn, 1)] := by decide +kernel
theorem dX7_value_0 : decode cX7_value 0 = .ok (.aload_n 0, 1) := fo_dd DX7_value_0 0 rfl
theorem dX7_value_1 : decode cX7_value 1 = .ok (.aload_n 0, 1) := fo_dd DX7_value_0 1 rfl
theorem dX7_value_2 : decode cX7_value 2 = .ok (.iload_n 1, 1) := fo_dd DX7_value_0 2 rfl
theorem dX7_value_3 : decode cX7_value 3 = .ok (.iload_n 2, 1) := fo_dd DX7_value_0 3 rfl
theorem dX7_value_4 : decode cX7_value 4 = .ok (.invokevirtual 139, 3) := fo_dd DX7_value_0 4 rfl
theorem dX7_value_7 : decode cX7_value 7 = .ok (.putfield 25, 3) := fo_dd DX7_value_0 5 rfl
theorem dX7_value_10 : decode cX7_value 10 = .ok (.aload_n 0, 1) := fo_dd DX7_value_0 6 rfl
theorem dX7_value_11 : decode cX7_value 11 = .ok (.getfield 25, 3) := fo_dd DX7_value_0 7 rfl
theorem dX7_value_14 : decode cX7_value 14 = .ok (.ifCond .le 7, 3) := fo_dd DX7_value_0 8 rfl
theorem dX7_value_17 : decode cX7_value 17 = .ok (.iconst 0, 1) := fo_dd DX7_value_0 9 rfl
theorem dX7_value_18 : decode cX7_value 18 = .ok (.goto 9, 3) := fo_dd DX7_value_0 10 rfl
theorem dX7_value_21 : decode cX7_value 21 = .ok (.aload_n 0, 1) := fo_dd DX7_value_0 11 rfl
theorem dX7_value_22 : decode cX7_value 22 = .ok (.iload_n 1, 1) := fo_dd DX7_value_0 12 rfl
theorem dX7_value_23 : decode cX7_value 23 = .ok (.iload_n 2, 1) := fo_dd DX7_value_0 13 rfl
theorem dX7_value_24 : decode cX7_value 24 = .ok (.invokevirtual 142, 3) := fo_dd DX7_value_0 14 rfl
theorem dX7_value_27 : decode cX7_value 27 = .ok (.ireturn, 1) := fo_dd DX7_value_0 15 rfl
theorem DX7_range_0 : fo_dl cX7_range [(0, .aload_n 0, 1), (1, .aload_n 0, 1), (2, .iload_n 1, 1), (3, .iconst 0, 1), (4, .invokevirtual 139, 3), (7, .putfield 25, 3), (10, .aload_n 0, 1), (11, .getfield 25, 3), (14, .ifCond .le 5, 3), (17, .iconst 0, 1), (18, .ireturn, 1), (19, .aload_n 0, 1), (20, .iload_n 1, 1), (21, .iconst 0, 1), (22, .invokevirtual 142, 3), (25, .istore_n 2, 1), (26, .iload_n 2, 1), (27, .istore_n 3, 1), (28, .iconst 1, 1), (29, .istore 4, 2), (31, .iload 4, 2), (33, .aload_n 0, 1), (34, .iload_n 1, 1), (35, .invokevirtual 92, 3), (38, .if_icmp .ge 55, 3), (41, .aload_n 0, 1), (42, .iload_n 1, 1), (43, .iload 4, 2), (45, .invokevirtual 142, 3), (48, .iload_n 2, 1), (49, .if_icmp .ge 13, 3), (52, .aload_n 0, 1), (53, .iload_n 1, 1), (54, .iload 4, 2), (56, .invokevirtual 142, 3), (59, .goto 4, 3), (62, .iload_n 2, 1), (63, .istore_n 2, 1), (64, .aload_n 0, 1), (65, .iload_n 1, 1), (66, .iload 4, 2), (68, .invokevirtual 142, 3), (71, .iload_n 3, 1), (72, .if_icmp .le 13, 3), (75, .aload_n 0, 1), (76, .iload_n 1, 1), (77, .iload 4, 2), (79, .invokevirtual 142, 3), (82, .goto 4, 3), (85, .iload_n 3, 1), (86, .istore_n 3, 1), (87, .iinc 4 1, 3), (90, .goto (-59), 3), (93, .iload_n 3, 1), (94, .iload_n 2, 1), (95, .isub, 1), (96, .ireturn, 1)] := by decide +kernel
theorem dX7_range_0 : decode cX7_range 0 = .ok (.aload_n 0, 1) := fo_dd DX7_range_0 0 rfl
theorem dX7_range_1 : decode cX7_range 1 = .ok (.aload_n 0, 1) := fo_dd DX7_range_0 1 rfl
theorem dX7_range_2 : decode cX7_range 2 = .ok (.iload_n 1, 1) := fo_dd DX7_range_0 2 rfl
theorem dX7_range_3 : decode cX7_range 3 = .ok (.iconst 0, 1) := fo_dd DX7_range_0 3 rfl
theorem dX7_range_4 : decode cX7_range 4 = .ok (.invokevirtual 139, 3) := fo_dd DX7_range_0 4 rfl
theorem dX7_range_7 : decode cX7_range 7 = .ok (.putfield 25, 3) := fo_dd DX7_range_0 5 rfl
theorem dX7_range_10 : decode cX7_range 10 = .ok (.aload_n 0, 1) := fo_dd DX7_range_0 6 rfl
theorem dX7_range_11 : decode cX7_range 11 = .ok (.getfield 25, 3) := fo_dd DX7_range_0 7 rfl
theorem dX7_range_14 : decode cX7_range 14 = .ok (.ifCond .le 5, 3) := fo_dd DX7_range_0 8 rfl
theorem dX7_range_17 : decode cX7_range 17 = .ok (.iconst 0, 1) := fo_dd DX7_range_0 9 rfl
theorem dX7_range_18 : decode cX7_range 18 = .ok (.ireturn, 1) := fo_dd DX7_range_0 10 rfl
theorem dX7_range_19 : decode cX7_range 19 = .ok (.aload_n 0, 1) := fo_dd DX7_range_0 11 rfl
theorem dX7_range_20 : decode cX7_range 20 = .ok (.iload_n 1, 1) := fo_dd DX7_range_0 12 rfl
theorem dX7_range_21 : decode cX7_range 21 = .ok (.iconst 0, 1) := fo_dd DX7_range_0 13 rfl
theorem dX7_range_22 : decode cX7_range 22 = .ok (.invokevirtual 142, 3) := fo_dd DX7_range_0 14 rfl
theorem dX7_range_25 : decode cX7_range 25 = .ok (.istore_n 2, 1) := fo_dd DX7_range_0 15 rfl
theorem dX7_range_26 : decode cX7_range 26 = .ok (.iload_n 2, 1) := fo_dd DX7_range_0 16 rfl
theorem dX7_range_27 : decode cX7_range 27 = .ok (.istore_n 3, 1) := fo_dd DX7_range_0 17 rfl
theorem dX7_range_28 : decode cX7_range 28 = .ok (.iconst 1, 1) := fo_dd DX7_range_0 18 rfl
theorem dX7_range_29 : decode cX7_range 29 = .ok (.istore 4, 2) := fo_dd DX7_range_0 19 rfl
theorem dX7_range_31 : decode cX7_range 31 = .ok (.iload 4, 2) := fo_dd DX7_range_0 20 rfl
theorem dX7_range_33 : decode cX7_range 33 = .ok (.aload_n 0, 1) := fo_dd DX7_range_0 21 rfl
theorem dX7_range_34 : decode cX7_range 34 = .ok (.iload_n 1, 1) := fo_dd DX7_range_0 22 rfl
theorem dX7_range_35 : decode cX7_range 35 = .ok (.invokevirtual 92, 3) := fo_dd DX7_range_0 23 rfl
theorem dX7_range_38 : decode cX7_range 38 = .ok (.if_icmp .ge 55, 3) := fo_dd DX7_range_0 24 rfl
theorem dX7_range_41 : decode cX7_range 41 = .ok (.aload_n 0, 1) := fo_dd DX7_range_0 25 rfl
theorem dX7_range_42 : decode cX7_range 42 = .ok (.iload_n 1, 1) := fo_dd DX7_range_0 26 rfl
theorem dX7_range_43 : decode cX7_range 43 = .ok (.iload 4, 2) := fo_dd DX7_range_0 27 rfl
theorem dX7_range_45 : decode cX7_range 45 = .ok (.invokevirtual 142, 3) := fo_dd DX7_range_0 28 rfl
theorem dX7_range_48 : decode cX7_range 48 = .ok (.iload_n 2, 1) := fo_dd DX7_range_0 29 rfl
theorem dX7_range_49 : decode cX7_range 49 = .ok (.if_icmp .ge 13, 3) := fo_dd DX7_range_0 30 rfl
theorem dX7_range_52 : decode cX7_range 52 = .ok (.aload_n 0, 1) := fo_dd DX7_range_0 31 rfl
theorem dX7_range_53 : decode cX7_range 53 = .ok (.iload_n 1, 1) := fo_dd DX7_range_0 32 rfl
theorem dX7_range_54 : decode cX7_range 54 = .ok (.iload 4, 2) := fo_dd DX7_range_0 33 rfl
theorem dX7_range_56 : decode cX7_range 56 = .ok (.invokevirtual 142, 3) := fo_dd DX7_range_0 34 rfl
theorem dX7_range_59 : decode cX7_range 59 = .ok (.goto 4, 3) := fo_dd DX7_range_0 35 rfl
theorem dX7_range_62 : decode cX7_range 62 = .ok (.iload_n 2, 1) := fo_dd DX7_range_0 36 rfl
theorem dX7_range_63 : decode cX7_range 63 = .ok (.istore_n 2, 1) := fo_dd DX7_range_0 37 rfl
theorem dX7_range_64 : decode cX7_range 64 = .ok (.aload_n 0, 1) := fo_dd DX7_range_0 38 rfl
theorem dX7_range_65 : decode cX7_range 65 = .ok (.iload_n 1, 1) := fo_dd DX7_range_0 39 rfl
theorem dX7_range_66 : decode cX7_range 66 = .ok (.iload 4, 2) := fo_dd DX7_range_0 40 rfl
theorem dX7_range_68 : decode cX7_range 68 = .ok (.invokevirtual 142, 3) := fo_dd DX7_range_0 41 rfl
theorem dX7_range_71 : decode cX7_range 71 = .ok (.iload_n 3, 1) := fo_dd DX7_range_0 42 rfl
theorem dX7_range_72 : decode cX7_range 72 = .ok (.if_icmp .le 13, 3) := fo_dd DX7_range_0 43 rfl
theorem dX7_range_75 : decode cX7_range 75 = .ok (.aload_n 0, 1) := fo_dd DX7_range_0 44 rfl
theorem dX7_range_76 : decode cX7_range 76 = .ok (.iload_n 1, 1) := fo_dd DX7_range_0 45 rfl
theorem dX7_range_77 : decode cX7_range 77 = .ok (.iload 4, 2) := fo_dd DX7_range_0 46 rfl
theorem dX7_range_79 : decode cX7_range 79 = .ok (.invokevirtual 142, 3) := fo_dd DX7_range_0 47 rfl
theorem dX7_range_82 : decode cX7_range 82 = .ok (.goto 4, 3) := fo_dd DX7_range_0 48 rfl
theorem dX7_range_85 : decode cX7_range 85 = .ok (.iload_n 3, 1) := fo_dd DX7_range_0 49 rfl
theorem dX7_range_86 : decode cX7_range 86 = .ok (.istore_n 3, 1) := fo_dd DX7_range_0 50 rfl
theorem dX7_range_87 : decode cX7_range 87 = .ok (.iinc 4 1, 3) := fo_dd DX7_range_0 51 rfl
theorem dX7_range_90 : decode cX7_range 90 = .ok (.goto (-59), 3) := fo_dd DX7_range_0 52 rfl
theorem dX7_range_93 : decode cX7_range 93 = .ok (.iload_n 3, 1) := fo_dd DX7_range_0 53 rfl
theorem dX7_range_94 : decode cX7_range 94 = .ok (.iload_n 2, 1) := fo_dd DX7_range_0 54 rfl
theorem dX7_range_95 : decode cX7_range 95 = .ok (.isub, 1) := fo_dd DX7_range_0 55 rfl
theorem dX7_range_96 : decode cX7_range 96 = .ok (.ireturn, 1) := fo_dd DX7_range_0 56 rfl
theorem DX7_noLast_0 : fo_dl cX7_noLast [(0, .iload_n 1, 1), (1, .invokestatic 120, 3), (4, .ifCond .ne 7, 3), (7, .iconst 1, 1), (8, .goto 31, 3), (11, .iload_n 2, 1), (12, .iconst 1, 1), (13, .bipush 30, 2), (15, .invokestatic 88, 3), (18, .ifCond .ne 7, 3), (21, .iconst 2, 1), (22, .goto 17, 3), (25, .aload_n 0, 1), (26, .iload_n 1, 1), (27, .invokevirtual 92, 3), (30, .iload_n 2, 1), (31, .if_icmp .ge 7, 3), (34, .iconst 3, 1), (35, .goto 4, 3), (38, .iconst 0, 1), (39, .ireturn, 1)] := by decide +kernel
theorem dX7_noLast_0 : decode cX7_noLast 0 = .ok (.iload_n 1, 1) := fo_dd DX7_noLast_0 0 rfl
theorem dX7_noLast_1 : decode cX7_noLast 1 = .ok (.invokestatic 120, 3) := fo_dd DX7_noLast_0 1 rfl
theorem dX7_noLast_4 : decode cX7_noLast 4 = .ok (.ifCond .ne 7, 3) := fo_dd DX7_noLast_0 2 rfl
theorem dX7_noLast_7 : decode cX7_noLast 7 = .ok (.iconst 1, 1) := fo_dd DX7_noLast_0 3 rfl
theorem dX7_noLast_8 : decode cX7_noLast 8 = .ok (.goto 31, 3) := fo_dd DX7_noLast_0 4 rfl
theorem dX7_noLast_11 : decode cX7_noLast 11 = .ok (.iload_n 2, 1) := fo_dd DX7_noLast_0 5 rfl
theorem dX7_noLast_12 : decode cX7_noLast 12 = .ok (.iconst 1, 1) := fo_dd DX7_noLast_0 6 rfl
theorem dX7_noLast_13 : decode cX7_noLast 13 = .ok (.bipush 30, 2) := fo_dd DX7_noLast_0 7 rfl
theorem dX7_noLast_15 : decode cX7_noLast 15 = .ok (.invokestatic 88, 3) := fo_dd DX7_noLast_0 8 rfl
theorem dX7_noLast_18 : decode cX7_noLast 18 = .ok (.ifCond .ne 7, 3) := fo_dd DX7_noLast_0 9 rfl
theorem dX7_noLast_21 : decode cX7_noLast 21 = .ok (.iconst 2, 1) := fo_dd DX7_noLast_0 10 rfl
theorem dX7_noLast_22 : decode cX7_noLast 22 = .ok (.goto 17, 3) := fo_dd DX7_noLast_0 11 rfl
theorem dX7_noLast_25 : decode cX7_noLast 25 = .ok (.aload_n 0, 1) := fo_dd DX7_noLast_0 12 rfl
theorem dX7_noLast_26 : decode cX7_noLast 26 = .ok (.iload_n 1, 1) := fo_dd DX7_noLast_0 13 rfl
theorem dX7_noLast_27 : decode cX7_noLast 27 = .ok (.invokevirtual 92, 3) := fo_dd DX7_noLast_0 14 rfl
theorem dX7_noLast_30 : decode cX7_noLast 30 = .ok (.iload_n 2, 1) := fo_dd DX7_noLast_0 15 rfl
theorem dX7_noLast_31 : decode cX7_noLast 31 = .ok (.if_icmp .ge 7, 3) := fo_dd DX7_noLast_0 16 rfl
theorem dX7_noLast_34 : decode cX7_noLast 34 = .ok (.iconst 3, 1) := fo_dd DX7_noLast_0 17 rfl
theorem dX7_noLast_35 : decode cX7_noLast 35 = .ok (.goto 4, 3) := fo_dd DX7_noLast_0 18 rfl
theorem dX7_noLast_38 : decode cX7_noLast 38 = .ok (.iconst 0, 1) := fo_dd DX7_noLast_0 19 rfl
theorem dX7_noLast_39 : decode cX7_noLast 39 = .ok (.ireturn, 1) := fo_dd DX7_noLast_0 20 rfl
theorem DX7_mean_0 : fo_dl cX7_mean [(0, .iconst 0, 1), (1, .istore 4, 2), (3, .iload_n 2, 1), (4, .iload_n 3, 1), (5, .isub, 1), (6, .istore 5, 2), (8, .iload 5, 2), (10, .iload_n 2, 1), (11, .if_icmp .ge 21, 3), (14, .iload 4, 2), (16, .aload_n 0, 1), (17, .iload_n 1, 1), (18, .iload 5, 2), (20, .invokevirtual 142, 3), (23, .iadd, 1), (24, .istore 4, 2), (26, .iinc 5 1, 3), (29, .goto (-21), 3), (32, .iload 4, 2), (34, .i2d, 1), (35, .iload_n 3, 1), (36, .i2d, 1), (37, .ddiv, 1), (38, .dreturn, 1)] := by decide +kernel
theorem dX7_mean_0 : decode cX7_mean 0 = .ok (.iconst 0, 1) := fo_dd DX7_mean_0 0 rfl
theorem dX7_mean_1 : decode cX7_mean 1 = .ok (.istore 4, 2) := fo_dd DX7_mean_0 1 rfl
theorem dX7_mean_3 : decode cX7_mean 3 = .ok (.iload_n 2, 1) := fo_dd DX7_mean_0 2 rfl
theorem dX7_mean_4 : decode cX7_mean 4 = .ok (.iload_n 3, 1) := fo_dd DX7_mean_0 3 rfl
theorem dX7_mean_5 : decode cX7_mean 5 = .ok (.isub, 1) := fo_dd DX7_mean_0 4 rfl
theorem dX7_mean_6 : decode cX7_mean 6 = .ok (.istore 5, 2) := fo_dd DX7_mean_0 5 rfl
theorem dX7_mean_8 : decode cX7_mean 8 = .ok (.iload 5, 2) := fo_dd DX7_mean_0 6 rfl
theorem dX7_mean_10 : decode cX7_mean 10 = .ok (.iload_n 2, 1) := fo_dd DX7_mean_0 7 rfl
theorem dX7_mean_11 : decode cX7_mean 11 = .ok (.if_icmp .ge 21, 3) := fo_dd DX7_mean_0 8 rfl
theorem dX7_mean_14 : decode cX7_mean 14 = .ok (.iload 4, 2) := fo_dd DX7_mean_0 9 rfl
theorem dX7_mean_16 : decode cX7_mean 16 = .ok (.aload_n 0, 1) := fo_dd DX7_mean_0 10 rfl
theorem dX7_mean_17 : decode cX7_mean 17 = .ok (.iload_n 1, 1) := fo_dd DX7_mean_0 11 rfl
theorem dX7_mean_18 : decode cX7_mean 18 = .ok (.iload 5, 2) := fo_dd DX7_mean_0 12 rfl
theorem dX7_mean_20 : decode cX7_mean 20 = .ok (.invokevirtual 142, 3) := fo_dd DX7_mean_0 13 rfl
theorem dX7_mean_23 : decode cX7_mean 23 = .ok (.iadd, 1) := fo_dd DX7_mean_0 14 rfl
theorem dX7_mean_24 : decode cX7_mean 24 = .ok (.istore 4, 2) := fo_dd DX7_mean_0 15 rfl
theorem dX7_mean_26 : decode cX7_mean 26 = .ok (.iinc 5 1, 3) := fo_dd DX7_mean_0 16 rfl
theorem dX7_mean_29 : decode cX7_mean 29 = .ok (.goto (-21), 3) := fo_dd DX7_mean_0 17 rfl
theorem dX7_mean_32 : decode cX7_mean 32 = .ok (.iload 4, 2) := fo_dd DX7_mean_0 18 rfl
theorem dX7_mean_34 : decode cX7_mean 34 = .ok (.i2d, 1) := fo_dd DX7_mean_0 19 rfl
theorem dX7_mean_35 : decode cX7_mean 35 = .ok (.iload_n 3, 1) := fo_dd DX7_mean_0 20 rfl
theorem dX7_mean_36 : decode cX7_mean 36 = .ok (.i2d, 1) := fo_dd DX7_mean_0 21 rfl
theorem dX7_mean_37 : decode cX7_mean 37 = .ok (.ddiv, 1) := fo_dd DX7_mean_0 22 rfl
theorem dX7_mean_38 : decode cX7_mean 38 = .ok (.dreturn, 1) := fo_dd DX7_mean_0 23 rfl
theorem DX7_lastMean_0 : fo_dl cX7_lastMean [(0, .aload_n 0, 1), (1, .aload_n 0, 1), (2, .iload_n 1, 1), (3, .iload_n 2, 1), (4, .invokevirtual 145, 3), (7, .putfield 25, 3), (10, .aload_n 0, 1), (11, .getfield 25, 3), (14, .ifCond .le 7, 3), (17, .dconst 0, 1), (18, .goto 14, 3), (21, .aload_n 0, 1), (22, .iload_n 1, 1), (23, .aload_n 0, 1), (24, .iload_n 1, 1), (25, .invokevirtual 92, 3), (28, .iload_n 2, 1), (29, .invokevirtual 148, 3), (32, .dreturn, 1)] := by decide +kernel
theorem dX7_lastMean_0 : decode cX7_lastMean 0 = .ok (.aload_n 0, 1) := fo_dd DX7_lastMean_0 0 rfl
theorem dX7_lastMean_1 : decode cX7_lastMean 1 = .ok (.aload_n 0, 1) := fo_dd DX7_lastMean_0 1 rfl
theorem dX7_lastMean_2 : decode cX7_lastMean 2 = .ok (.iload_n 1, 1) := fo_dd DX7_lastMean_0 2 rfl
theorem dX7_lastMean_3 : decode cX7_lastMean 3 = .ok (.iload_n 2, 1) := fo_dd DX7_lastMean_0 3 rfl
theorem dX7_lastMean_4 : decode cX7_lastMean 4 = .ok (.invokevirtual 145, 3) := fo_dd DX7_lastMean_0 4 rfl
theorem dX7_lastMean_7 : decode cX7_lastMean 7 = .ok (.putfield 25, 3) := fo_dd DX7_lastMean_0 5 rfl
theorem dX7_lastMean_10 : decode cX7_lastMean 10 = .ok (.aload_n 0, 1) := fo_dd DX7_lastMean_0 6 rfl
theorem dX7_lastMean_11 : decode cX7_lastMean 11 = .ok (.getfield 25, 3) := fo_dd DX7_lastMean_0 7 rfl
theorem dX7_lastMean_14 : decode cX7_lastMean 14 = .ok (.ifCond .le 7, 3) := fo_dd DX7_lastMean_0 8 rfl
theorem dX7_lastMean_17 : decode cX7_lastMean 17 = .ok (.dconst 0, 1) := fo_dd DX7_lastMean_0 9 rfl
theorem dX7_lastMean_18 : decode cX7_lastMean 18 = .ok (.goto 14, 3) := fo_dd DX7_lastMean_0 10 rfl
theorem dX7_lastMean_21 : decode cX7_lastMean 21 = .ok (.aload_n 0, 1) := fo_dd DX7_lastMean_0 11 rfl
theorem dX7_lastMean_22 : decode cX7_lastMean 22 = .ok (.iload_n 1, 1) := fo_dd DX7_lastMean_0 12 rfl
theorem dX7_lastMean_23 : decode cX7_lastMean 23 = .ok (.aload_n 0, 1) := fo_dd DX7_lastMean_0 13 rfl
theorem dX7_lastMean_24 : decode cX7_lastMean 24 = .ok (.iload_n 1, 1) := fo_dd DX7_lastMean_0 14 rfl
theorem dX7_lastMean_25 : decode cX7_lastMean 25 = .ok (.invokevirtual 92, 3) := fo_dd DX7_lastMean_0 15 rfl
theorem dX7_lastMean_28 : decode cX7_lastMean 28 = .ok (.iload_n 2, 1) := fo_dd DX7_lastMean_0 16 rfl
theorem dX7_lastMean_29 : decode cX7_lastMean 29 = .ok (.invokevirtual 148, 3) := fo_dd DX7_lastMean_0 17 rfl
theorem dX7_lastMean_32 : decode cX7_lastMean 32 = .ok (.dreturn, 1) := fo_dd DX7_lastMean_0 18 rfl
theorem DX7_movingAverage_0 : fo_dl cX7_movingAverage [(0, .aload_n 0, 1), (1, .iload_n 1, 1), (2, .iload_n 2, 1), (3, .invokevirtual 152, 3), (6, .dreturn, 1)] := by decide +kernel
theorem dX7_movingAverage_0 : decode cX7_movingAverage 0 = .ok (.aload_n 0, 1) := fo_dd DX7_movingAverage_0 0 rfl
theorem dX7_movingAverage_1 : decode cX7_movingAverage 1 = .ok (.iload_n 1, 1) := fo_dd DX7_movingAverage_0 1 rfl
theorem dX7_movingAverage_2 : decode cX7_movingAverage 2 = .ok (.iload_n 2, 1) := fo_dd DX7_movingAverage_0 2 rfl
theorem dX7_movingAverage_3 : decode cX7_movingAverage 3 = .ok (.invokevirtual 152, 3) := fo_dd DX7_movingAverage_0 3 rfl
theorem dX7_movingAverage_6 : decode cX7_movingAverage 6 = .ok (.dreturn, 1) := fo_dd DX7_movingAverage_0 4 rfl
theorem DX7_movingAverageBySums_0 : fo_dl cX7_movingAverageBySums [(0, .aload_n 0, 1), (1, .iload_n 1, 1), (2, .iload_n 2, 1), (3, .invokevirtual 152, 3), (6, .dreturn, 1)] := by decide +kernel
theorem dX7_movingAverageBySums_0 : decode cX7_movingAverageBySums 0 = .ok (.aload_n 0, 1) := fo_dd DX7_movingAverageBySums_0 0 rfl
theorem dX7_movingAverageBySums_1 : decode cX7_movingAverageBySums 1 = .ok (.iload_n 1, 1) := fo_dd DX7_movingAverageBySums_0 1 rfl
theorem dX7_movingAverageBySums_2 : decode cX7_movingAverageBySums 2 = .ok (.iload_n 2, 1) := fo_dd DX7_movingAverageBySums_0 2 rfl
theorem dX7_movingAverageBySums_3 : decode cX7_movingAverageBySums 3 = .ok (.invokevirtual 152, 3) := fo_dd DX7_movingAverageBySums_0 3 rfl
theorem dX7_movingAverageBySums_6 : decode cX7_movingAverageBySums 6 = .ok (.dreturn, 1) := fo_dd DX7_movingAverageBySums_0 4 rfl
theorem DX7_rowMedian_0 : fo_dl cX7_rowMedian [(0, .iload_n 1, 1), (1, .iconst 1, 1), (2, .isub, 1), (3, .iconst 2, 1), (4, .idiv, 1), (5, .istore_n 2, 1), (6, .iconst 0, 1), (7, .istore_n 3, 1), (8, .iload_n 3, 1), (9, .iload_n 1, 1), (10, .if_icmp .ge 104, 3), (13, .iconst 0, 1), (14, .istore 4, 2), (16, .iconst 0, 1), (17, .istore 5, 2), (19, .iconst 0, 1), (20, .istore 6, 2), (22, .iload 6, 2), (24, .iload_n 1, 1), (25, .if_icmp .ge 61, 3), (28, .iload 4, 2), (30, .aload_n 0, 1), (31, .getfield 22, 3), (34, .iload 6, 2), (36, .iaload, 1), (37, .aload_n 0, 1), (38, .getfield 22, 3), (41, .iload_n 3, 1), (42, .iaload, 1), (43, .if_icmp .ge 7, 3), (46, .iconst 1, 1), (47, .goto 4, 3), (50, .iconst 0, 1), (51, .iadd, 1), (52, .istore 4, 2), (54, .iload 5, 2), (56, .aload_n 0, 1), (57, .getfield 22, 3), (60, .iload 6, 2), (62, .iaload, 1), (63, .aload_n 0, 1), (64, .getfield 22, 3), (67, .iload_n 3, 1), (68, .iaload, 1), (69, .if_icmp .ne 7, 3), (72, .iconst 1, 1), (73, .goto 4, 3), (76, .iconst 0, 1), (77, .iadd, 1), (78, .istore 5, 2), (80, .iinc 6 1, 3), (83, .goto (-61), 3), (86, .iload 4, 2), (88, .iload_n 2, 1), (89, .if_icmp .gt 19, 3), (92, .iload_n 2, 1), (93, .iload 4, 2), (95, .iload 5, 2), (97, .iadd, 1), (98, .if_icmp .ge 10, 3), (101, .aload_n 0, 1), (102, .getfield 22, 3), (105, .iload_n 3, 1), (106, .iaload, 1)] := by decide +kernel
theorem dX7_rowMedian_0 : decode cX7_rowMedian 0 = .ok (.iload_n 1, 1) := fo_dd DX7_rowMedian_0 0 rfl
theorem dX7_rowMedian_1 : decode cX7_rowMedian 1 = .ok (.iconst 1, 1) := fo_dd DX7_rowMedian_0 1 rfl
theorem dX7_rowMedian_2 : decode cX7_rowMedian 2 = .ok (.isub, 1) := fo_dd DX7_rowMedian_0 2 rfl
theorem dX7_rowMedian_3 : decode cX7_rowMedian 3 = .ok (.iconst 2, 1) := fo_dd DX7_rowMedian_0 3 rfl
theorem dX7_rowMedian_4 : decode cX7_rowMedian 4 = .ok (.idiv, 1) := fo_dd DX7_rowMedian_0 4 rfl
theorem dX7_rowMedian_5 : decode cX7_rowMedian 5 = .ok (.istore_n 2, 1) := fo_dd DX7_rowMedian_0 5 rfl
theorem dX7_rowMedian_6 : decode cX7_rowMedian 6 = .ok (.iconst 0, 1) := fo_dd DX7_rowMedian_0 6 rfl
theorem dX7_rowMedian_7 : decode cX7_rowMedian 7 = .ok (.istore_n 3, 1) := fo_dd DX7_rowMedian_0 7 rfl
theorem dX7_rowMedian_8 : decode cX7_rowMedian 8 = .ok (.iload_n 3, 1) := fo_dd DX7_rowMedian_0 8 rfl
theorem dX7_rowMedian_9 : decode cX7_rowMedian 9 = .ok (.iload_n 1, 1) := fo_dd DX7_rowMedian_0 9 rfl
theorem dX7_rowMedian_10 : decode cX7_rowMedian 10 = .ok (.if_icmp .ge 104, 3) := fo_dd DX7_rowMedian_0 10 rfl
theorem dX7_rowMedian_13 : decode cX7_rowMedian 13 = .ok (.iconst 0, 1) := fo_dd DX7_rowMedian_0 11 rfl
theorem dX7_rowMedian_14 : decode cX7_rowMedian 14 = .ok (.istore 4, 2) := fo_dd DX7_rowMedian_0 12 rfl
theorem dX7_rowMedian_16 : decode cX7_rowMedian 16 = .ok (.iconst 0, 1) := fo_dd DX7_rowMedian_0 13 rfl
theorem dX7_rowMedian_17 : decode cX7_rowMedian 17 = .ok (.istore 5, 2) := fo_dd DX7_rowMedian_0 14 rfl
theorem dX7_rowMedian_19 : decode cX7_rowMedian 19 = .ok (.iconst 0, 1) := fo_dd DX7_rowMedian_0 15 rfl
theorem dX7_rowMedian_20 : decode cX7_rowMedian 20 = .ok (.istore 6, 2) := fo_dd DX7_rowMedian_0 16 rfl
theorem dX7_rowMedian_22 : decode cX7_rowMedian 22 = .ok (.iload 6, 2) := fo_dd DX7_rowMedian_0 17 rfl
theorem dX7_rowMedian_24 : decode cX7_rowMedian 24 = .ok (.iload_n 1, 1) := fo_dd DX7_rowMedian_0 18 rfl
theorem dX7_rowMedian_25 : decode cX7_rowMedian 25 = .ok (.if_icmp .ge 61, 3) := fo_dd DX7_rowMedian_0 19 rfl
theorem dX7_rowMedian_28 : decode cX7_rowMedian 28 = .ok (.iload 4, 2) := fo_dd DX7_rowMedian_0 20 rfl
theorem dX7_rowMedian_30 : decode cX7_rowMedian 30 = .ok (.aload_n 0, 1) := fo_dd DX7_rowMedian_0 21 rfl
theorem dX7_rowMedian_31 : decode cX7_rowMedian 31 = .ok (.getfield 22, 3) := fo_dd DX7_rowMedian_0 22 rfl
theorem dX7_rowMedian_34 : decode cX7_rowMedian 34 = .ok (.iload 6, 2) := fo_dd DX7_rowMedian_0 23 rfl
theorem dX7_rowMedian_36 : decode cX7_rowMedian 36 = .ok (.iaload, 1) := fo_dd DX7_rowMedian_0 24 rfl
theorem dX7_rowMedian_37 : decode cX7_rowMedian 37 = .ok (.aload_n 0, 1) := fo_dd DX7_rowMedian_0 25 rfl
theorem dX7_rowMedian_38 : decode cX7_rowMedian 38 = .ok (.getfield 22, 3) := fo_dd DX7_rowMedian_0 26 rfl
theorem dX7_rowMedian_41 : decode cX7_rowMedian 41 = .ok (.iload_n 3, 1) := fo_dd DX7_rowMedian_0 27 rfl
theorem dX7_rowMedian_42 : decode cX7_rowMedian 42 = .ok (.iaload, 1) := fo_dd DX7_rowMedian_0 28 rfl
theorem dX7_rowMedian_43 : decode cX7_rowMedian 43 = .ok (.if_icmp .ge 7, 3) := fo_dd DX7_rowMedian_0 29 rfl
theorem dX7_rowMedian_46 : decode cX7_rowMedian 46 = .ok (.iconst 1, 1) := fo_dd DX7_rowMedian_0 30 rfl
theorem dX7_rowMedian_47 : decode cX7_rowMedian 47 = .ok (.goto 4, 3) := fo_dd DX7_rowMedian_0 31 rfl
theorem dX7_rowMedian_50 : decode cX7_rowMedian 50 = .ok (.iconst 0, 1) := fo_dd DX7_rowMedian_0 32 rfl
theorem dX7_rowMedian_51 : decode cX7_rowMedian 51 = .ok (.iadd, 1) := fo_dd DX7_rowMedian_0 33 rfl
theorem dX7_rowMedian_52 : decode cX7_rowMedian 52 = .ok (.istore 4, 2) := fo_dd DX7_rowMedian_0 34 rfl
theorem dX7_rowMedian_54 : decode cX7_rowMedian 54 = .ok (.iload 5, 2) := fo_dd DX7_rowMedian_0 35 rfl
theorem dX7_rowMedian_56 : decode cX7_rowMedian 56 = .ok (.aload_n 0, 1) := fo_dd DX7_rowMedian_0 36 rfl
theorem dX7_rowMedian_57 : decode cX7_rowMedian 57 = .ok (.getfield 22, 3) := fo_dd DX7_rowMedian_0 37 rfl
theorem dX7_rowMedian_60 : decode cX7_rowMedian 60 = .ok (.iload 6, 2) := fo_dd DX7_rowMedian_0 38 rfl
theorem dX7_rowMedian_62 : decode cX7_rowMedian 62 = .ok (.iaload, 1) := fo_dd DX7_rowMedian_0 39 rfl
theorem dX7_rowMedian_63 : decode cX7_rowMedian 63 = .ok (.aload_n 0, 1) := fo_dd DX7_rowMedian_0 40 rfl
theorem dX7_rowMedian_64 : decode cX7_rowMedian 64 = .ok (.getfield 22, 3) := fo_dd DX7_rowMedian_0 41 rfl
theorem dX7_rowMedian_67 : decode cX7_rowMedian 67 = .ok (.iload_n 3, 1) := fo_dd DX7_rowMedian_0 42 rfl
theorem dX7_rowMedian_68 : decode cX7_rowMedian 68 = .ok (.iaload, 1) := fo_dd DX7_rowMedian_0 43 rfl
theorem dX7_rowMedian_69 : decode cX7_rowMedian 69 = .ok (.if_icmp .ne 7, 3) := fo_dd DX7_rowMedian_0 44 rfl
theorem dX7_rowMedian_72 : decode cX7_rowMedian 72 = .ok (.iconst 1, 1) := fo_dd DX7_rowMedian_0 45 rfl
theorem dX7_rowMedian_73 : decode cX7_rowMedian 73 = .ok (.goto 4, 3) := fo_dd DX7_rowMedian_0 46 rfl
theorem dX7_rowMedian_76 : decode cX7_rowMedian 76 = .ok (.iconst 0, 1) := fo_dd DX7_rowMedian_0 47 rfl
theorem dX7_rowMedian_77 : decode cX7_rowMedian 77 = .ok (.iadd, 1) := fo_dd DX7_rowMedian_0 48 rfl
theorem dX7_rowMedian_78 : decode cX7_rowMedian 78 = .ok (.istore 5, 2) := fo_dd DX7_rowMedian_0 49 rfl
theorem dX7_rowMedian_80 : decode cX7_rowMedian 80 = .ok (.iinc 6 1, 3) := fo_dd DX7_rowMedian_0 50 rfl
theorem dX7_rowMedian_83 : decode cX7_rowMedian 83 = .ok (.goto (-61), 3) := fo_dd DX7_rowMedian_0 51 rfl
theorem dX7_rowMedian_86 : decode cX7_rowMedian 86 = .ok (.iload 4, 2) := fo_dd DX7_rowMedian_0 52 rfl
theorem dX7_rowMedian_88 : decode cX7_rowMedian 88 = .ok (.iload_n 2, 1) := fo_dd DX7_rowMedian_0 53 rfl
theorem dX7_rowMedian_89 : decode cX7_rowMedian 89 = .ok (.if_icmp .gt 19, 3) := fo_dd DX7_rowMedian_0 54 rfl
theorem dX7_rowMedian_92 : decode cX7_rowMedian 92 = .ok (.iload_n 2, 1) := fo_dd DX7_rowMedian_0 55 rfl
theorem dX7_rowMedian_93 : decode cX7_rowMedian 93 = .ok (.iload 4, 2) := fo_dd DX7_rowMedian_0 56 rfl
theorem dX7_rowMedian_95 : decode cX7_rowMedian 95 = .ok (.iload 5, 2) := fo_dd DX7_rowMedian_0 57 rfl
theorem dX7_rowMedian_97 : decode cX7_rowMedian 97 = .ok (.iadd, 1) := fo_dd DX7_rowMedian_0 58 rfl
theorem dX7_rowMedian_98 : decode cX7_rowMedian 98 = .ok (.if_icmp .ge 10, 3) := fo_dd DX7_rowMedian_0 59 rfl
theorem dX7_rowMedian_101 : decode cX7_rowMedian 101 = .ok (.aload_n 0, 1) := fo_dd DX7_rowMedian_0 60 rfl
theorem dX7_rowMedian_102 : decode cX7_rowMedian 102 = .ok (.getfield 22, 3) := fo_dd DX7_rowMedian_0 61 rfl
theorem dX7_rowMedian_105 : decode cX7_rowMedian 105 = .ok (.iload_n 3, 1) := fo_dd DX7_rowMedian_0 62 rfl
theorem dX7_rowMedian_106 : decode cX7_rowMedian 106 = .ok (.iaload, 1) := fo_dd DX7_rowMedian_0 63 rfl
theorem DX7_rowMedian_1 : fo_dl cX7_rowMedian [(107, .ireturn, 1), (108, .iinc 3 1, 3), (111, .goto (-103), 3), (114, .iconst 0, 1), (115, .ireturn, 1)] := by decide +kernel
theorem dX7_rowMedian_107 : decode cX7_rowMedian 107 = .ok (.ireturn, 1) := fo_dd DX7_rowMedian_1 0 rfl
theorem dX7_rowMedian_108 : decode cX7_rowMedian 108 = .ok (.iinc 3 1, 3) := fo_dd DX7_rowMedian_1 1 rfl
theorem dX7_rowMedian_111 : decode cX7_rowMedian 111 = .ok (.goto (-103), 3) := fo_dd DX7_rowMedian_1 2 rfl
theorem dX7_rowMedian_114 : decode cX7_rowMedian 114 = .ok (.iconst 0, 1) := fo_dd DX7_rowMedian_1 3 rfl
theorem dX7_rowMedian_115 : decode cX7_rowMedian 115 = .ok (.ireturn, 1) := fo_dd DX7_rowMedian_1 4 rfl
theorem DX7_medianAhead_0 : fo_dl cX7_medianAhead [(0, .iconst 0, 1), (1, .istore 4, 2), (3, .iload 4, 2), (5, .iload_n 3, 1), (6, .if_icmp .ge 27, 3), (9, .aload_n 0, 1), (10, .getfield 22, 3), (13, .iload 4, 2), (15, .aload_n 0, 1), (16, .iload_n 1, 1), (17, .iload_n 2, 1), (18, .iload_n 3, 1), (19, .isub, 1), (20, .iload 4, 2), (22, .iadd, 1), (23, .invokevirtual 142, 3), (26, .iastore, 1), (27, .iinc 4 1, 3), (30, .goto (-27), 3), (33, .aload_n 0, 1), (34, .iload_n 3, 1), (35, .invokevirtual 156, 3), (38, .ireturn, 1)] := by decide +kernel
theorem dX7_medianAhead_0 : decode cX7_medianAhead 0 = .ok (.iconst 0, 1) := fo_dd DX7_medianAhead_0 0 rfl
theorem dX7_medianAhead_1 : decode cX7_medianAhead 1 = .ok (.istore 4, 2) := fo_dd DX7_medianAhead_0 1 rfl
theorem dX7_medianAhead_3 : decode cX7_medianAhead 3 = .ok (.iload 4, 2) := fo_dd DX7_medianAhead_0 2 rfl
theorem dX7_medianAhead_5 : decode cX7_medianAhead 5 = .ok (.iload_n 3, 1) := fo_dd DX7_medianAhead_0 3 rfl
theorem dX7_medianAhead_6 : decode cX7_medianAhead 6 = .ok (.if_icmp .ge 27, 3) := fo_dd DX7_medianAhead_0 4 rfl
theorem dX7_medianAhead_9 : decode cX7_medianAhead 9 = .ok (.aload_n 0, 1) := fo_dd DX7_medianAhead_0 5 rfl
theorem dX7_medianAhead_10 : decode cX7_medianAhead 10 = .ok (.getfield 22, 3) := fo_dd DX7_medianAhead_0 6 rfl
theorem dX7_medianAhead_13 : decode cX7_medianAhead 13 = .ok (.iload 4, 2) := fo_dd DX7_medianAhead_0 7 rfl
theorem dX7_medianAhead_15 : decode cX7_medianAhead 15 = .ok (.aload_n 0, 1) := fo_dd DX7_medianAhead_0 8 rfl
theorem dX7_medianAhead_16 : decode cX7_medianAhead 16 = .ok (.iload_n 1, 1) := fo_dd DX7_medianAhead_0 9 rfl
theorem dX7_medianAhead_17 : decode cX7_medianAhead 17 = .ok (.iload_n 2, 1) := fo_dd DX7_medianAhead_0 10 rfl
theorem dX7_medianAhead_18 : decode cX7_medianAhead 18 = .ok (.iload_n 3, 1) := fo_dd DX7_medianAhead_0 11 rfl
theorem dX7_medianAhead_19 : decode cX7_medianAhead 19 = .ok (.isub, 1) := fo_dd DX7_medianAhead_0 12 rfl
theorem dX7_medianAhead_20 : decode cX7_medianAhead 20 = .ok (.iload 4, 2) := fo_dd DX7_medianAhead_0 13 rfl
theorem dX7_medianAhead_22 : decode cX7_medianAhead 22 = .ok (.iadd, 1) := fo_dd DX7_medianAhead_0 14 rfl
theorem dX7_medianAhead_23 : decode cX7_medianAhead 23 = .ok (.invokevirtual 142, 3) := fo_dd DX7_medianAhead_0 15 rfl
theorem dX7_medianAhead_26 : decode cX7_medianAhead 26 = .ok (.iastore, 1) := fo_dd DX7_medianAhead_0 16 rfl
theorem dX7_medianAhead_27 : decode cX7_medianAhead 27 = .ok (.iinc 4 1, 3) := fo_dd DX7_medianAhead_0 17 rfl
theorem dX7_medianAhead_30 : decode cX7_medianAhead 30 = .ok (.goto (-27), 3) := fo_dd DX7_medianAhead_0 18 rfl
theorem dX7_medianAhead_33 : decode cX7_medianAhead 33 = .ok (.aload_n 0, 1) := fo_dd DX7_medianAhead_0 19 rfl
theorem dX7_medianAhead_34 : decode cX7_medianAhead 34 = .ok (.iload_n 3, 1) := fo_dd DX7_medianAhead_0 20 rfl
theorem dX7_medianAhead_35 : decode cX7_medianAhead 35 = .ok (.invokevirtual 156, 3) := fo_dd DX7_medianAhead_0 21 rfl
theorem dX7_medianAhead_38 : decode cX7_medianAhead 38 = .ok (.ireturn, 1) := fo_dd DX7_medianAhead_0 22 rfl
theorem DX7_lastMedian_0 : fo_dl cX7_lastMedian [(0, .aload_n 0, 1), (1, .aload_n 0, 1), (2, .iload_n 1, 1), (3, .iload_n 2, 1), (4, .invokevirtual 145, 3), (7, .putfield 25, 3), (10, .aload_n 0, 1), (11, .getfield 25, 3), (14, .ifCond .le 7, 3), (17, .iconst 0, 1), (18, .goto 14, 3), (21, .aload_n 0, 1), (22, .iload_n 1, 1), (23, .aload_n 0, 1), (24, .iload_n 1, 1), (25, .invokevirtual 92, 3), (28, .iload_n 2, 1), (29, .invokevirtual 159, 3), (32, .ireturn, 1)] := by decide +kernel
theorem dX7_lastMedian_0 : decode cX7_lastMedian 0 = .ok (.aload_n 0, 1) := fo_dd DX7_lastMedian_0 0 rfl
theorem dX7_lastMedian_1 : decode cX7_lastMedian 1 = .ok (.aload_n 0, 1) := fo_dd DX7_lastMedian_0 1 rfl
theorem dX7_lastMedian_2 : decode cX7_lastMedian 2 = .ok (.iload_n 1, 1) := fo_dd DX7_lastMedian_0 2 rfl
theorem dX7_lastMedian_3 : decode cX7_lastMedian 3 = .ok (.iload_n 2, 1) := fo_dd DX7_lastMedian_0 3 rfl
theorem dX7_lastMedian_4 : decode cX7_lastMedian 4 = .ok (.invokevirtual 145, 3) := fo_dd DX7_lastMedian_0 4 rfl
theorem dX7_lastMedian_7 : decode cX7_lastMedian 7 = .ok (.putfield 25, 3) := fo_dd DX7_lastMedian_0 5 rfl
theorem dX7_lastMedian_10 : decode cX7_lastMedian 10 = .ok (.aload_n 0, 1) := fo_dd DX7_lastMedian_0 6 rfl
theorem dX7_lastMedian_11 : decode cX7_lastMedian 11 = .ok (.getfield 25, 3) := fo_dd DX7_lastMedian_0 7 rfl
theorem dX7_lastMedian_14 : decode cX7_lastMedian 14 = .ok (.ifCond .le 7, 3) := fo_dd DX7_lastMedian_0 8 rfl
theorem dX7_lastMedian_17 : decode cX7_lastMedian 17 = .ok (.iconst 0, 1) := fo_dd DX7_lastMedian_0 9 rfl
theorem dX7_lastMedian_18 : decode cX7_lastMedian 18 = .ok (.goto 14, 3) := fo_dd DX7_lastMedian_0 10 rfl
theorem dX7_lastMedian_21 : decode cX7_lastMedian 21 = .ok (.aload_n 0, 1) := fo_dd DX7_lastMedian_0 11 rfl
theorem dX7_lastMedian_22 : decode cX7_lastMedian 22 = .ok (.iload_n 1, 1) := fo_dd DX7_lastMedian_0 12 rfl
theorem dX7_lastMedian_23 : decode cX7_lastMedian 23 = .ok (.aload_n 0, 1) := fo_dd DX7_lastMedian_0 13 rfl
theorem dX7_lastMedian_24 : decode cX7_lastMedian 24 = .ok (.iload_n 1, 1) := fo_dd DX7_lastMedian_0 14 rfl
theorem dX7_lastMedian_25 : decode cX7_lastMedian 25 = .ok (.invokevirtual 92, 3) := fo_dd DX7_lastMedian_0 15 rfl
theorem dX7_lastMedian_28 : decode cX7_lastMedian 28 = .ok (.iload_n 2, 1) := fo_dd DX7_lastMedian_0 16 rfl
theorem dX7_lastMedian_29 : decode cX7_lastMedian 29 = .ok (.invokevirtual 159, 3) := fo_dd DX7_lastMedian_0 17 rfl
theorem dX7_lastMedian_32 : decode cX7_lastMedian 32 = .ok (.ireturn, 1) := fo_dd DX7_lastMedian_0 18 rfl
theorem DX7_median_0 : fo_dl cX7_median [(0, .aload_n 0, 1), (1, .iload_n 1, 1), (2, .iload_n 2, 1), (3, .invokevirtual 163, 3), (6, .ireturn, 1)] := by decide +kernel
theorem dX7_median_0 : decode cX7_median 0 = .ok (.aload_n 0, 1) := fo_dd DX7_median_0 0 rfl
theorem dX7_median_1 : decode cX7_median 1 = .ok (.iload_n 1, 1) := fo_dd DX7_median_0 1 rfl
theorem dX7_median_2 : decode cX7_median 2 = .ok (.iload_n 2, 1) := fo_dd DX7_median_0 2 rfl
theorem dX7_median_3 : decode cX7_median 3 = .ok (.invokevirtual 163, 3) := fo_dd DX7_median_0 3 rfl
theorem dX7_median_6 : decode cX7_median 6 = .ok (.ireturn, 1) := fo_dd DX7_median_0 4 rfl
theorem DX7_medianByCounting_0 : fo_dl cX7_medianByCounting [(0, .aload_n 0, 1), (1, .iload_n 1, 1), (2, .iload_n 2, 1), (3, .invokevirtual 163, 3), (6, .ireturn, 1)] := by decide +kernel
theorem dX7_medianByCounting_0 : decode cX7_medianByCounting 0 = .ok (.aload_n 0, 1) := fo_dd DX7_medianByCounting_0 0 rfl
theorem dX7_medianByCounting_1 : decode cX7_medianByCounting 1 = .ok (.iload_n 1, 1) := fo_dd DX7_medianByCounting_0 1 rfl
theorem dX7_medianByCounting_2 : decode cX7_medianByCounting 2 = .ok (.iload_n 2, 1) := fo_dd DX7_medianByCounting_0 2 rfl
theorem dX7_medianByCounting_3 : decode cX7_medianByCounting 3 = .ok (.invokevirtual 163, 3) := fo_dd DX7_medianByCounting_0 3 rfl
theorem dX7_medianByCounting_6 : decode cX7_medianByCounting 6 = .ok (.ireturn, 1) := fo_dd DX7_medianByCounting_0 4 rfl
theorem DX7_level_0 : fo_dl cX7_level [(0, .aload_n 0, 1), (1, .iload_n 1, 1), (2, .iconst 0, 1), (3, .invokevirtual 142, 3), (6, .i2d, 1), (7, .dstore 4, 2), (9, .iconst 1, 1), (10, .istore 6, 2), (12, .iload 6, 2), (14, .iload_n 2, 1), (15, .if_icmp .ge 32, 3), (18, .dload 4, 2), (20, .iload_n 3, 1), (21, .i2d, 1), (22, .aload_n 0, 1), (23, .iload_n 1, 1), (24, .iload 6, 2), (26, .invokevirtual 142, 3), (29, .i2d, 1), (30, .dload 4, 2), (32, .dsub, 1), (33, .dmul, 1), (34, .ldc2_w 166, 3), (37, .ddiv, 1), (38, .dadd, 1), (39, .dstore 4, 2), (41, .iinc 6 1, 3), (44, .goto (-32), 3), (47, .dload 4, 2), (49, .dreturn, 1)] := by decide +kernel
theorem dX7_level_0 : decode cX7_level 0 = .ok (.aload_n 0, 1) := fo_dd DX7_level_0 0 rfl
theorem dX7_level_1 : decode cX7_level 1 = .ok (.iload_n 1, 1) := fo_dd DX7_level_0 1 rfl
theorem dX7_level_2 : decode cX7_level 2 = .ok (.iconst 0, 1) := fo_dd DX7_level_0 2 rfl
theorem dX7_level_3 : decode cX7_level 3 = .ok (.invokevirtual 142, 3) := fo_dd DX7_level_0 3 rfl
theorem dX7_level_6 : decode cX7_level 6 = .ok (.i2d, 1) := fo_dd DX7_level_0 4 rfl
theorem dX7_level_7 : decode cX7_level 7 = .ok (.dstore 4, 2) := fo_dd DX7_level_0 5 rfl
theorem dX7_level_9 : decode cX7_level 9 = .ok (.iconst 1, 1) := fo_dd DX7_level_0 6 rfl
theorem dX7_level_10 : decode cX7_level 10 = .ok (.istore 6, 2) := fo_dd DX7_level_0 7 rfl
theorem dX7_level_12 : decode cX7_level 12 = .ok (.iload 6, 2) := fo_dd DX7_level_0 8 rfl
theorem dX7_level_14 : decode cX7_level 14 = .ok (.iload_n 2, 1) := fo_dd DX7_level_0 9 rfl
theorem dX7_level_15 : decode cX7_level 15 = .ok (.if_icmp .ge 32, 3) := fo_dd DX7_level_0 10 rfl
theorem dX7_level_18 : decode cX7_level 18 = .ok (.dload 4, 2) := fo_dd DX7_level_0 11 rfl
theorem dX7_level_20 : decode cX7_level 20 = .ok (.iload_n 3, 1) := fo_dd DX7_level_0 12 rfl
theorem dX7_level_21 : decode cX7_level 21 = .ok (.i2d, 1) := fo_dd DX7_level_0 13 rfl
theorem dX7_level_22 : decode cX7_level 22 = .ok (.aload_n 0, 1) := fo_dd DX7_level_0 14 rfl
theorem dX7_level_23 : decode cX7_level 23 = .ok (.iload_n 1, 1) := fo_dd DX7_level_0 15 rfl
theorem dX7_level_24 : decode cX7_level 24 = .ok (.iload 6, 2) := fo_dd DX7_level_0 16 rfl
theorem dX7_level_26 : decode cX7_level 26 = .ok (.invokevirtual 142, 3) := fo_dd DX7_level_0 17 rfl
theorem dX7_level_29 : decode cX7_level 29 = .ok (.i2d, 1) := fo_dd DX7_level_0 18 rfl
theorem dX7_level_30 : decode cX7_level 30 = .ok (.dload 4, 2) := fo_dd DX7_level_0 19 rfl
theorem dX7_level_32 : decode cX7_level 32 = .ok (.dsub, 1) := fo_dd DX7_level_0 20 rfl
theorem dX7_level_33 : decode cX7_level 33 = .ok (.dmul, 1) := fo_dd DX7_level_0 21 rfl
theorem dX7_level_34 : decode cX7_level 34 = .ok (.ldc2_w 166, 3) := fo_dd DX7_level_0 22 rfl
theorem dX7_level_37 : decode cX7_level 37 = .ok (.ddiv, 1) := fo_dd DX7_level_0 23 rfl
theorem dX7_level_38 : decode cX7_level 38 = .ok (.dadd, 1) := fo_dd DX7_level_0 24 rfl
theorem dX7_level_39 : decode cX7_level 39 = .ok (.dstore 4, 2) := fo_dd DX7_level_0 25 rfl
theorem dX7_level_41 : decode cX7_level 41 = .ok (.iinc 6 1, 3) := fo_dd DX7_level_0 26 rfl
theorem dX7_level_44 : decode cX7_level 44 = .ok (.goto (-32), 3) := fo_dd DX7_level_0 27 rfl
theorem dX7_level_47 : decode cX7_level 47 = .ok (.dload 4, 2) := fo_dd DX7_level_0 28 rfl
theorem dX7_level_49 : decode cX7_level 49 = .ok (.dreturn, 1) := fo_dd DX7_level_0 29 rfl
theorem DX7_smoothed_0 : fo_dl cX7_smoothed [(0, .aload_n 0, 1), (1, .iload_n 1, 1), (2, .invokestatic 120, 3), (5, .ifCond .ne 7, 3), (8, .iconst 1, 1), (9, .goto 30, 3), (12, .iload_n 2, 1), (13, .iconst 1, 1), (14, .bipush 9, 2), (16, .invokestatic 88, 3), (19, .ifCond .ne 7, 3), (22, .iconst 2, 1), (23, .goto 16, 3), (26, .aload_n 0, 1), (27, .iload_n 1, 1), (28, .invokevirtual 92, 3), (31, .ifCond .ne 7, 3), (34, .iconst 3, 1), (35, .goto 4, 3), (38, .iconst 0, 1), (39, .putfield 25, 3), (42, .aload_n 0, 1), (43, .getfield 25, 3), (46, .ifCond .le 7, 3), (49, .dconst 0, 1), (50, .goto 14, 3), (53, .aload_n 0, 1), (54, .iload_n 1, 1), (55, .aload_n 0, 1), (56, .iload_n 1, 1), (57, .invokevirtual 92, 3), (60, .iload_n 2, 1), (61, .invokevirtual 168, 3), (64, .dreturn, 1)] := by decide +kernel
theorem dX7_smoothed_0 : decode cX7_smoothed 0 = .ok (.aload_n 0, 1) := fo_dd DX7_smoothed_0 0 rfl
theorem dX7_smoothed_1 : decode cX7_smoothed 1 = .ok (.iload_n 1, 1) := fo_dd DX7_smoothed_0 1 rfl
theorem dX7_smoothed_2 : decode cX7_smoothed 2 = .ok (.invokestatic 120, 3) := fo_dd DX7_smoothed_0 2 rfl
theorem dX7_smoothed_5 : decode cX7_smoothed 5 = .ok (.ifCond .ne 7, 3) := fo_dd DX7_smoothed_0 3 rfl
theorem dX7_smoothed_8 : decode cX7_smoothed 8 = .ok (.iconst 1, 1) := fo_dd DX7_smoothed_0 4 rfl
theorem dX7_smoothed_9 : decode cX7_smoothed 9 = .ok (.goto 30, 3) := fo_dd DX7_smoothed_0 5 rfl
theorem dX7_smoothed_12 : decode cX7_smoothed 12 = .ok (.iload_n 2, 1) := fo_dd DX7_smoothed_0 6 rfl
theorem dX7_smoothed_13 : decode cX7_smoothed 13 = .ok (.iconst 1, 1) := fo_dd DX7_smoothed_0 7 rfl
theorem dX7_smoothed_14 : decode cX7_smoothed 14 = .ok (.bipush 9, 2) := fo_dd DX7_smoothed_0 8 rfl
theorem dX7_smoothed_16 : decode cX7_smoothed 16 = .ok (.invokestatic 88, 3) := fo_dd DX7_smoothed_0 9 rfl
theorem dX7_smoothed_19 : decode cX7_smoothed 19 = .ok (.ifCond .ne 7, 3) := fo_dd DX7_smoothed_0 10 rfl
theorem dX7_smoothed_22 : decode cX7_smoothed 22 = .ok (.iconst 2, 1) := fo_dd DX7_smoothed_0 11 rfl
theorem dX7_smoothed_23 : decode cX7_smoothed 23 = .ok (.goto 16, 3) := fo_dd DX7_smoothed_0 12 rfl
theorem dX7_smoothed_26 : decode cX7_smoothed 26 = .ok (.aload_n 0, 1) := fo_dd DX7_smoothed_0 13 rfl
theorem dX7_smoothed_27 : decode cX7_smoothed 27 = .ok (.iload_n 1, 1) := fo_dd DX7_smoothed_0 14 rfl
theorem dX7_smoothed_28 : decode cX7_smoothed 28 = .ok (.invokevirtual 92, 3) := fo_dd DX7_smoothed_0 15 rfl
theorem dX7_smoothed_31 : decode cX7_smoothed 31 = .ok (.ifCond .ne 7, 3) := fo_dd DX7_smoothed_0 16 rfl
theorem dX7_smoothed_34 : decode cX7_smoothed 34 = .ok (.iconst 3, 1) := fo_dd DX7_smoothed_0 17 rfl
theorem dX7_smoothed_35 : decode cX7_smoothed 35 = .ok (.goto 4, 3) := fo_dd DX7_smoothed_0 18 rfl
theorem dX7_smoothed_38 : decode cX7_smoothed 38 = .ok (.iconst 0, 1) := fo_dd DX7_smoothed_0 19 rfl
theorem dX7_smoothed_39 : decode cX7_smoothed 39 = .ok (.putfield 25, 3) := fo_dd DX7_smoothed_0 20 rfl
theorem dX7_smoothed_42 : decode cX7_smoothed 42 = .ok (.aload_n 0, 1) := fo_dd DX7_smoothed_0 21 rfl
theorem dX7_smoothed_43 : decode cX7_smoothed 43 = .ok (.getfield 25, 3) := fo_dd DX7_smoothed_0 22 rfl
theorem dX7_smoothed_46 : decode cX7_smoothed 46 = .ok (.ifCond .le 7, 3) := fo_dd DX7_smoothed_0 23 rfl
theorem dX7_smoothed_49 : decode cX7_smoothed 49 = .ok (.dconst 0, 1) := fo_dd DX7_smoothed_0 24 rfl
theorem dX7_smoothed_50 : decode cX7_smoothed 50 = .ok (.goto 14, 3) := fo_dd DX7_smoothed_0 25 rfl
theorem dX7_smoothed_53 : decode cX7_smoothed 53 = .ok (.aload_n 0, 1) := fo_dd DX7_smoothed_0 26 rfl
theorem dX7_smoothed_54 : decode cX7_smoothed 54 = .ok (.iload_n 1, 1) := fo_dd DX7_smoothed_0 27 rfl
theorem dX7_smoothed_55 : decode cX7_smoothed 55 = .ok (.aload_n 0, 1) := fo_dd DX7_smoothed_0 28 rfl
theorem dX7_smoothed_56 : decode cX7_smoothed 56 = .ok (.iload_n 1, 1) := fo_dd DX7_smoothed_0 29 rfl
theorem dX7_smoothed_57 : decode cX7_smoothed 57 = .ok (.invokevirtual 92, 3) := fo_dd DX7_smoothed_0 30 rfl
theorem dX7_smoothed_60 : decode cX7_smoothed 60 = .ok (.iload_n 2, 1) := fo_dd DX7_smoothed_0 31 rfl
theorem dX7_smoothed_61 : decode cX7_smoothed 61 = .ok (.invokevirtual 168, 3) := fo_dd DX7_smoothed_0 32 rfl
theorem dX7_smoothed_64 : decode cX7_smoothed 64 = .ok (.dreturn, 1) := fo_dd DX7_smoothed_0 33 rfl
theorem DX7_apart_0 : fo_dl cX7_apart [(0, .iload_n 0, 1), (1, .iload_n 1, 1), (2, .if_icmp .ge 9, 3), (5, .iload_n 1, 1), (6, .iload_n 0, 1), (7, .isub, 1), (8, .goto 6, 3), (11, .iload_n 0, 1), (12, .iload_n 1, 1), (13, .isub, 1), (14, .ireturn, 1)] := by decide +kernel
theorem dX7_apart_0 : decode cX7_apart 0 = .ok (.iload_n 0, 1) := fo_dd DX7_apart_0 0 rfl
theorem dX7_apart_1 : decode cX7_apart 1 = .ok (.iload_n 1, 1) := fo_dd DX7_apart_0 1 rfl
theorem dX7_apart_2 : decode cX7_apart 2 = .ok (.if_icmp .ge 9, 3) := fo_dd DX7_apart_0 2 rfl
theorem dX7_apart_5 : decode cX7_apart 5 = .ok (.iload_n 1, 1) := fo_dd DX7_apart_0 3 rfl
theorem dX7_apart_6 : decode cX7_apart 6 = .ok (.iload_n 0, 1) := fo_dd DX7_apart_0 4 rfl
theorem dX7_apart_7 : decode cX7_apart 7 = .ok (.isub, 1) := fo_dd DX7_apart_0 5 rfl
theorem dX7_apart_8 : decode cX7_apart 8 = .ok (.goto 6, 3) := fo_dd DX7_apart_0 6 rfl
theorem dX7_apart_11 : decode cX7_apart 11 = .ok (.iload_n 0, 1) := fo_dd DX7_apart_0 7 rfl
theorem dX7_apart_12 : decode cX7_apart 12 = .ok (.iload_n 1, 1) := fo_dd DX7_apart_0 8 rfl
theorem dX7_apart_13 : decode cX7_apart 13 = .ok (.isub, 1) := fo_dd DX7_apart_0 9 rfl
theorem dX7_apart_14 : decode cX7_apart 14 = .ok (.ireturn, 1) := fo_dd DX7_apart_0 10 rfl
theorem DX7_isOff_0 : fo_dl cX7_isOff [(0, .iload_n 2, 1), (1, .iconst 5, 1), (2, .if_icmp .ge 5, 3), (5, .iconst 0, 1), (6, .ireturn, 1), (7, .aload_n 0, 1), (8, .iload_n 1, 1), (9, .iload_n 2, 1), (10, .iconst 5, 1), (11, .invokevirtual 159, 3), (14, .istore_n 3, 1), (15, .iconst 0, 1), (16, .istore 4, 2), (18, .iload 4, 2), (20, .iconst 5, 1), (21, .if_icmp .ge 31, 3), (24, .aload_n 0, 1), (25, .getfield 22, 3), (28, .iload 4, 2), (30, .aload_n 0, 1), (31, .iload_n 1, 1), (32, .iload_n 2, 1), (33, .iconst 5, 1), (34, .isub, 1), (35, .iload 4, 2), (37, .iadd, 1), (38, .invokevirtual 142, 3), (41, .iload_n 3, 1), (42, .invokestatic 171, 3), (45, .iastore, 1), (46, .iinc 4 1, 3), (49, .goto (-31), 3), (52, .aload_n 0, 1), (53, .iconst 5, 1), (54, .invokevirtual 156, 3), (57, .istore 4, 2), (59, .aload_n 0, 1), (60, .iload_n 1, 1), (61, .iload_n 2, 1), (62, .invokevirtual 142, 3), (65, .iload_n 3, 1), (66, .invokestatic 171, 3), (69, .aload_n 0, 1), (70, .getfield 7, 3), (73, .iconst 1, 1), (74, .iaload, 1), (75, .iload 4, 2), (77, .ifCond .ne 7, 3), (80, .iconst 1, 1), (81, .goto 5, 3), (84, .iload 4, 2), (86, .imul, 1), (87, .if_icmp .le 7, 3), (90, .iconst 1, 1), (91, .goto 4, 3), (94, .iconst 0, 1), (95, .ireturn, 1)] := by decide +kernel
theorem dX7_isOff_0 : decode cX7_isOff 0 = .ok (.iload_n 2, 1) := fo_dd DX7_isOff_0 0 rfl
theorem dX7_isOff_1 : decode cX7_isOff 1 = .ok (.iconst 5, 1) := fo_dd DX7_isOff_0 1 rfl
theorem dX7_isOff_2 : decode cX7_isOff 2 = .ok (.if_icmp .ge 5, 3) := fo_dd DX7_isOff_0 2 rfl
theorem dX7_isOff_5 : decode cX7_isOff 5 = .ok (.iconst 0, 1) := fo_dd DX7_isOff_0 3 rfl
theorem dX7_isOff_6 : decode cX7_isOff 6 = .ok (.ireturn, 1) := fo_dd DX7_isOff_0 4 rfl
theorem dX7_isOff_7 : decode cX7_isOff 7 = .ok (.aload_n 0, 1) := fo_dd DX7_isOff_0 5 rfl
theorem dX7_isOff_8 : decode cX7_isOff 8 = .ok (.iload_n 1, 1) := fo_dd DX7_isOff_0 6 rfl
theorem dX7_isOff_9 : decode cX7_isOff 9 = .ok (.iload_n 2, 1) := fo_dd DX7_isOff_0 7 rfl
theorem dX7_isOff_10 : decode cX7_isOff 10 = .ok (.iconst 5, 1) := fo_dd DX7_isOff_0 8 rfl
theorem dX7_isOff_11 : decode cX7_isOff 11 = .ok (.invokevirtual 159, 3) := fo_dd DX7_isOff_0 9 rfl
theorem dX7_isOff_14 : decode cX7_isOff 14 = .ok (.istore_n 3, 1) := fo_dd DX7_isOff_0 10 rfl
theorem dX7_isOff_15 : decode cX7_isOff 15 = .ok (.iconst 0, 1) := fo_dd DX7_isOff_0 11 rfl
theorem dX7_isOff_16 : decode cX7_isOff 16 = .ok (.istore 4, 2) := fo_dd DX7_isOff_0 12 rfl
theorem dX7_isOff_18 : decode cX7_isOff 18 = .ok (.iload 4, 2) := fo_dd DX7_isOff_0 13 rfl
theorem dX7_isOff_20 : decode cX7_isOff 20 = .ok (.iconst 5, 1) := fo_dd DX7_isOff_0 14 rfl
theorem dX7_isOff_21 : decode cX7_isOff 21 = .ok (.if_icmp .ge 31, 3) := fo_dd DX7_isOff_0 15 rfl
theorem dX7_isOff_24 : decode cX7_isOff 24 = .ok (.aload_n 0, 1) := fo_dd DX7_isOff_0 16 rfl
theorem dX7_isOff_25 : decode cX7_isOff 25 = .ok (.getfield 22, 3) := fo_dd DX7_isOff_0 17 rfl
theorem dX7_isOff_28 : decode cX7_isOff 28 = .ok (.iload 4, 2) := fo_dd DX7_isOff_0 18 rfl
theorem dX7_isOff_30 : decode cX7_isOff 30 = .ok (.aload_n 0, 1) := fo_dd DX7_isOff_0 19 rfl
theorem dX7_isOff_31 : decode cX7_isOff 31 = .ok (.iload_n 1, 1) := fo_dd DX7_isOff_0 20 rfl
theorem dX7_isOff_32 : decode cX7_isOff 32 = .ok (.iload_n 2, 1) := fo_dd DX7_isOff_0 21 rfl
theorem dX7_isOff_33 : decode cX7_isOff 33 = .ok (.iconst 5, 1) := fo_dd DX7_isOff_0 22 rfl
theorem dX7_isOff_34 : decode cX7_isOff 34 = .ok (.isub, 1) := fo_dd DX7_isOff_0 23 rfl
theorem dX7_isOff_35 : decode cX7_isOff 35 = .ok (.iload 4, 2) := fo_dd DX7_isOff_0 24 rfl
theorem dX7_isOff_37 : decode cX7_isOff 37 = .ok (.iadd, 1) := fo_dd DX7_isOff_0 25 rfl
theorem dX7_isOff_38 : decode cX7_isOff 38 = .ok (.invokevirtual 142, 3) := fo_dd DX7_isOff_0 26 rfl
theorem dX7_isOff_41 : decode cX7_isOff 41 = .ok (.iload_n 3, 1) := fo_dd DX7_isOff_0 27 rfl
theorem dX7_isOff_42 : decode cX7_isOff 42 = .ok (.invokestatic 171, 3) := fo_dd DX7_isOff_0 28 rfl
theorem dX7_isOff_45 : decode cX7_isOff 45 = .ok (.iastore, 1) := fo_dd DX7_isOff_0 29 rfl
theorem dX7_isOff_46 : decode cX7_isOff 46 = .ok (.iinc 4 1, 3) := fo_dd DX7_isOff_0 30 rfl
theorem dX7_isOff_49 : decode cX7_isOff 49 = .ok (.goto (-31), 3) := fo_dd DX7_isOff_0 31 rfl
theorem dX7_isOff_52 : decode cX7_isOff 52 = .ok (.aload_n 0, 1) := fo_dd DX7_isOff_0 32 rfl
theorem dX7_isOff_53 : decode cX7_isOff 53 = .ok (.iconst 5, 1) := fo_dd DX7_isOff_0 33 rfl
theorem dX7_isOff_54 : decode cX7_isOff 54 = .ok (.invokevirtual 156, 3) := fo_dd DX7_isOff_0 34 rfl
theorem dX7_isOff_57 : decode cX7_isOff 57 = .ok (.istore 4, 2) := fo_dd DX7_isOff_0 35 rfl
theorem dX7_isOff_59 : decode cX7_isOff 59 = .ok (.aload_n 0, 1) := fo_dd DX7_isOff_0 36 rfl
theorem dX7_isOff_60 : decode cX7_isOff 60 = .ok (.iload_n 1, 1) := fo_dd DX7_isOff_0 37 rfl
theorem dX7_isOff_61 : decode cX7_isOff 61 = .ok (.iload_n 2, 1) := fo_dd DX7_isOff_0 38 rfl
theorem dX7_isOff_62 : decode cX7_isOff 62 = .ok (.invokevirtual 142, 3) := fo_dd DX7_isOff_0 39 rfl
theorem dX7_isOff_65 : decode cX7_isOff 65 = .ok (.iload_n 3, 1) := fo_dd DX7_isOff_0 40 rfl
theorem dX7_isOff_66 : decode cX7_isOff 66 = .ok (.invokestatic 171, 3) := fo_dd DX7_isOff_0 41 rfl
theorem dX7_isOff_69 : decode cX7_isOff 69 = .ok (.aload_n 0, 1) := fo_dd DX7_isOff_0 42 rfl
theorem dX7_isOff_70 : decode cX7_isOff 70 = .ok (.getfield 7, 3) := fo_dd DX7_isOff_0 43 rfl
theorem dX7_isOff_73 : decode cX7_isOff 73 = .ok (.iconst 1, 1) := fo_dd DX7_isOff_0 44 rfl
theorem dX7_isOff_74 : decode cX7_isOff 74 = .ok (.iaload, 1) := fo_dd DX7_isOff_0 45 rfl
theorem dX7_isOff_75 : decode cX7_isOff 75 = .ok (.iload 4, 2) := fo_dd DX7_isOff_0 46 rfl
theorem dX7_isOff_77 : decode cX7_isOff 77 = .ok (.ifCond .ne 7, 3) := fo_dd DX7_isOff_0 47 rfl
theorem dX7_isOff_80 : decode cX7_isOff 80 = .ok (.iconst 1, 1) := fo_dd DX7_isOff_0 48 rfl
theorem dX7_isOff_81 : decode cX7_isOff 81 = .ok (.goto 5, 3) := fo_dd DX7_isOff_0 49 rfl
theorem dX7_isOff_84 : decode cX7_isOff 84 = .ok (.iload 4, 2) := fo_dd DX7_isOff_0 50 rfl
theorem dX7_isOff_86 : decode cX7_isOff 86 = .ok (.imul, 1) := fo_dd DX7_isOff_0 51 rfl
theorem dX7_isOff_87 : decode cX7_isOff 87 = .ok (.if_icmp .le 7, 3) := fo_dd DX7_isOff_0 52 rfl
theorem dX7_isOff_90 : decode cX7_isOff 90 = .ok (.iconst 1, 1) := fo_dd DX7_isOff_0 53 rfl
theorem dX7_isOff_91 : decode cX7_isOff 91 = .ok (.goto 4, 3) := fo_dd DX7_isOff_0 54 rfl
theorem dX7_isOff_94 : decode cX7_isOff 94 = .ok (.iconst 0, 1) := fo_dd DX7_isOff_0 55 rfl
theorem dX7_isOff_95 : decode cX7_isOff 95 = .ok (.ireturn, 1) := fo_dd DX7_isOff_0 56 rfl
theorem DX7_isOutlier_0 : fo_dl cX7_isOutlier [(0, .aload_n 0, 1), (1, .aload_n 0, 1), (2, .iload_n 1, 1), (3, .iload_n 2, 1), (4, .invokevirtual 139, 3), (7, .putfield 25, 3), (10, .aload_n 0, 1), (11, .getfield 25, 3), (14, .ifCond .ne 16, 3), (17, .aload_n 0, 1), (18, .iload_n 1, 1), (19, .iload_n 2, 1), (20, .invokevirtual 174, 3), (23, .ifCond .eq 7, 3), (26, .iconst 1, 1), (27, .goto 4, 3), (30, .iconst 0, 1), (31, .ireturn, 1)] := by decide +kernel
theorem dX7_isOutlier_0 : decode cX7_isOutlier 0 = .ok (.aload_n 0, 1) := fo_dd DX7_isOutlier_0 0 rfl
theorem dX7_isOutlier_1 : decode cX7_isOutlier 1 = .ok (.aload_n 0, 1) := fo_dd DX7_isOutlier_0 1 rfl
theorem dX7_isOutlier_2 : decode cX7_isOutlier 2 = .ok (.iload_n 1, 1) := fo_dd DX7_isOutlier_0 2 rfl
theorem dX7_isOutlier_3 : decode cX7_isOutlier 3 = .ok (.iload_n 2, 1) := fo_dd DX7_isOutlier_0 3 rfl
theorem dX7_isOutlier_4 : decode cX7_isOutlier 4 = .ok (.invokevirtual 139, 3) := fo_dd DX7_isOutlier_0 4 rfl
theorem dX7_isOutlier_7 : decode cX7_isOutlier 7 = .ok (.putfield 25, 3) := fo_dd DX7_isOutlier_0 5 rfl
theorem dX7_isOutlier_10 : decode cX7_isOutlier 10 = .ok (.aload_n 0, 1) := fo_dd DX7_isOutlier_0 6 rfl
theorem dX7_isOutlier_11 : decode cX7_isOutlier 11 = .ok (.getfield 25, 3) := fo_dd DX7_isOutlier_0 7 rfl
theorem dX7_isOutlier_14 : decode cX7_isOutlier 14 = .ok (.ifCond .ne 16, 3) := fo_dd DX7_isOutlier_0 8 rfl
theorem dX7_isOutlier_17 : decode cX7_isOutlier 17 = .ok (.aload_n 0, 1) := fo_dd DX7_isOutlier_0 9 rfl
theorem dX7_isOutlier_18 : decode cX7_isOutlier 18 = .ok (.iload_n 1, 1) := fo_dd DX7_isOutlier_0 10 rfl
theorem dX7_isOutlier_19 : decode cX7_isOutlier 19 = .ok (.iload_n 2, 1) := fo_dd DX7_isOutlier_0 11 rfl
theorem dX7_isOutlier_20 : decode cX7_isOutlier 20 = .ok (.invokevirtual 174, 3) := fo_dd DX7_isOutlier_0 12 rfl
theorem dX7_isOutlier_23 : decode cX7_isOutlier 23 = .ok (.ifCond .eq 7, 3) := fo_dd DX7_isOutlier_0 13 rfl
theorem dX7_isOutlier_26 : decode cX7_isOutlier 26 = .ok (.iconst 1, 1) := fo_dd DX7_isOutlier_0 14 rfl
theorem dX7_isOutlier_27 : decode cX7_isOutlier 27 = .ok (.goto 4, 3) := fo_dd DX7_isOutlier_0 15 rfl
theorem dX7_isOutlier_30 : decode cX7_isOutlier 30 = .ok (.iconst 0, 1) := fo_dd DX7_isOutlier_0 16 rfl
theorem dX7_isOutlier_31 : decode cX7_isOutlier 31 = .ok (.ireturn, 1) := fo_dd DX7_isOutlier_0 17 rfl
theorem DX7_offOf_0 : fo_dl cX7_offOf [(0, .iconst 0, 1), (1, .istore_n 2, 1), (2, .iconst 0, 1), (3, .istore_n 3, 1), (4, .iload_n 3, 1), (5, .aload_n 0, 1), (6, .iload_n 1, 1), (7, .invokevirtual 92, 3), (10, .if_icmp .ge 26, 3), (13, .iload_n 2, 1), (14, .aload_n 0, 1), (15, .iload_n 1, 1), (16, .iload_n 3, 1), (17, .invokevirtual 174, 3), (20, .ifCond .eq 7, 3), (23, .iconst 1, 1), (24, .goto 4, 3), (27, .iconst 0, 1), (28, .iadd, 1), (29, .istore_n 2, 1), (30, .iinc 3 1, 3), (33, .goto (-29), 3), (36, .iload_n 2, 1), (37, .ireturn, 1)] := by decide +kernel
theorem dX7_offOf_0 : decode cX7_offOf 0 = .ok (.iconst 0, 1) := fo_dd DX7_offOf_0 0 rfl
theorem dX7_offOf_1 : decode cX7_offOf 1 = .ok (.istore_n 2, 1) := fo_dd DX7_offOf_0 1 rfl
theorem dX7_offOf_2 : decode cX7_offOf 2 = .ok (.iconst 0, 1) := fo_dd DX7_offOf_0 2 rfl
theorem dX7_offOf_3 : decode cX7_offOf 3 = .ok (.istore_n 3, 1) := fo_dd DX7_offOf_0 3 rfl
theorem dX7_offOf_4 : decode cX7_offOf 4 = .ok (.iload_n 3, 1) := fo_dd DX7_offOf_0 4 rfl
theorem dX7_offOf_5 : decode cX7_offOf 5 = .ok (.aload_n 0, 1) := fo_dd DX7_offOf_0 5 rfl
theorem dX7_offOf_6 : decode cX7_offOf 6 = .ok (.iload_n 1, 1) := fo_dd DX7_offOf_0 6 rfl
theorem dX7_offOf_7 : decode cX7_offOf 7 = .ok (.invokevirtual 92, 3) := fo_dd DX7_offOf_0 7 rfl
theorem dX7_offOf_10 : decode cX7_offOf 10 = .ok (.if_icmp .ge 26, 3) := fo_dd DX7_offOf_0 8 rfl
theorem dX7_offOf_13 : decode cX7_offOf 13 = .ok (.iload_n 2, 1) := fo_dd DX7_offOf_0 9 rfl
theorem dX7_offOf_14 : decode cX7_offOf 14 = .ok (.aload_n 0, 1) := fo_dd DX7_offOf_0 10 rfl
theorem dX7_offOf_15 : decode cX7_offOf 15 = .ok (.iload_n 1, 1) := fo_dd DX7_offOf_0 11 rfl
theorem dX7_offOf_16 : decode cX7_offOf 16 = .ok (.iload_n 3, 1) := fo_dd DX7_offOf_0 12 rfl
theorem dX7_offOf_17 : decode cX7_offOf 17 = .ok (.invokevirtual 174, 3) := fo_dd DX7_offOf_0 13 rfl
theorem dX7_offOf_20 : decode cX7_offOf 20 = .ok (.ifCond .eq 7, 3) := fo_dd DX7_offOf_0 14 rfl
theorem dX7_offOf_23 : decode cX7_offOf 23 = .ok (.iconst 1, 1) := fo_dd DX7_offOf_0 15 rfl
theorem dX7_offOf_24 : decode cX7_offOf 24 = .ok (.goto 4, 3) := fo_dd DX7_offOf_0 16 rfl
theorem dX7_offOf_27 : decode cX7_offOf 27 = .ok (.iconst 0, 1) := fo_dd DX7_offOf_0 17 rfl
theorem dX7_offOf_28 : decode cX7_offOf 28 = .ok (.iadd, 1) := fo_dd DX7_offOf_0 18 rfl
theorem dX7_offOf_29 : decode cX7_offOf 29 = .ok (.istore_n 2, 1) := fo_dd DX7_offOf_0 19 rfl
theorem dX7_offOf_30 : decode cX7_offOf 30 = .ok (.iinc 3 1, 3) := fo_dd DX7_offOf_0 20 rfl
theorem dX7_offOf_33 : decode cX7_offOf 33 = .ok (.goto (-29), 3) := fo_dd DX7_offOf_0 21 rfl
theorem dX7_offOf_36 : decode cX7_offOf 36 = .ok (.iload_n 2, 1) := fo_dd DX7_offOf_0 22 rfl
theorem dX7_offOf_37 : decode cX7_offOf 37 = .ok (.ireturn, 1) := fo_dd DX7_offOf_0 23 rfl
theorem DX7_outliers_0 : fo_dl cX7_outliers [(0, .aload_n 0, 1), (1, .iload_n 1, 1), (2, .invokestatic 120, 3), (5, .invokevirtual 135, 3), (8, .ifCond .le 7, 3), (11, .iconst 0, 1), (12, .goto 8, 3), (15, .aload_n 0, 1), (16, .iload_n 1, 1), (17, .invokevirtual 178, 3), (20, .ireturn, 1)] := by decide +kernel
theorem dX7_outliers_0 : decode cX7_outliers 0 = .ok (.aload_n 0, 1) := fo_dd DX7_outliers_0 0 rfl
theorem dX7_outliers_1 : decode cX7_outliers 1 = .ok (.iload_n 1, 1) := fo_dd DX7_outliers_0 1 rfl
theorem dX7_outliers_2 : decode cX7_outliers 2 = .ok (.invokestatic 120, 3) := fo_dd DX7_outliers_0 2 rfl
theorem dX7_outliers_5 : decode cX7_outliers 5 = .ok (.invokevirtual 135, 3) := fo_dd DX7_outliers_0 3 rfl
theorem dX7_outliers_8 : decode cX7_outliers 8 = .ok (.ifCond .le 7, 3) := fo_dd DX7_outliers_0 4 rfl
theorem dX7_outliers_11 : decode cX7_outliers 11 = .ok (.iconst 0, 1) := fo_dd DX7_outliers_0 5 rfl
theorem dX7_outliers_12 : decode cX7_outliers 12 = .ok (.goto 8, 3) := fo_dd DX7_outliers_0 6 rfl
theorem dX7_outliers_15 : decode cX7_outliers 15 = .ok (.aload_n 0, 1) := fo_dd DX7_outliers_0 7 rfl
theorem dX7_outliers_16 : decode cX7_outliers 16 = .ok (.iload_n 1, 1) := fo_dd DX7_outliers_0 8 rfl
theorem dX7_outliers_17 : decode cX7_outliers 17 = .ok (.invokevirtual 178, 3) := fo_dd DX7_outliers_0 9 rfl
theorem dX7_outliers_20 : decode cX7_outliers 20 = .ok (.ireturn, 1) := fo_dd DX7_outliers_0 10 rfl
theorem DX7_longestRise_0 : fo_dl cX7_longestRise [(0, .aload_n 0, 1), (1, .iload_n 1, 1), (2, .invokestatic 120, 3), (5, .invokevirtual 135, 3), (8, .ifCond .le 5, 3), (11, .iconst 0, 1), (12, .ireturn, 1), (13, .iconst 0, 1), (14, .istore_n 2, 1), (15, .iconst 0, 1), (16, .istore_n 3, 1), (17, .iconst 0, 1), (18, .istore 4, 2), (20, .iload 4, 2), (22, .aload_n 0, 1), (23, .iload_n 1, 1), (24, .invokevirtual 92, 3), (27, .if_icmp .ge 52, 3), (30, .iload 4, 2), (32, .ifCond .le 28, 3), (35, .aload_n 0, 1), (36, .iload_n 1, 1), (37, .iload 4, 2), (39, .invokevirtual 142, 3), (42, .aload_n 0, 1), (43, .iload_n 1, 1), (44, .iload 4, 2), (46, .iconst 1, 1), (47, .isub, 1), (48, .invokevirtual 142, 3), (51, .if_icmp .le 9, 3), (54, .iload_n 3, 1), (55, .iconst 1, 1), (56, .iadd, 1), (57, .goto 4, 3), (60, .iconst 1, 1), (61, .istore_n 3, 1), (62, .iload_n 3, 1), (63, .iload_n 2, 1), (64, .if_icmp .le 7, 3), (67, .iload_n 3, 1), (68, .goto 4, 3), (71, .iload_n 2, 1), (72, .istore_n 2, 1), (73, .iinc 4 1, 3), (76, .goto (-56), 3), (79, .iload_n 2, 1), (80, .ireturn, 1)] := by decide +kernel
theorem dX7_longestRise_0 : decode cX7_longestRise 0 = .ok (.aload_n 0, 1) := fo_dd DX7_longestRise_0 0 rfl
theorem dX7_longestRise_1 : decode cX7_longestRise 1 = .ok (.iload_n 1, 1) := fo_dd DX7_longestRise_0 1 rfl
theorem dX7_longestRise_2 : decode cX7_longestRise 2 = .ok (.invokestatic 120, 3) := fo_dd DX7_longestRise_0 2 rfl
theorem dX7_longestRise_5 : decode cX7_longestRise 5 = .ok (.invokevirtual 135, 3) := fo_dd DX7_longestRise_0 3 rfl
theorem dX7_longestRise_8 : decode cX7_longestRise 8 = .ok (.ifCond .le 5, 3) := fo_dd DX7_longestRise_0 4 rfl
theorem dX7_longestRise_11 : decode cX7_longestRise 11 = .ok (.iconst 0, 1) := fo_dd DX7_longestRise_0 5 rfl
theorem dX7_longestRise_12 : decode cX7_longestRise 12 = .ok (.ireturn, 1) := fo_dd DX7_longestRise_0 6 rfl
theorem dX7_longestRise_13 : decode cX7_longestRise 13 = .ok (.iconst 0, 1) := fo_dd DX7_longestRise_0 7 rfl
theorem dX7_longestRise_14 : decode cX7_longestRise 14 = .ok (.istore_n 2, 1) := fo_dd DX7_longestRise_0 8 rfl
theorem dX7_longestRise_15 : decode cX7_longestRise 15 = .ok (.iconst 0, 1) := fo_dd DX7_longestRise_0 9 rfl
theorem dX7_longestRise_16 : decode cX7_longestRise 16 = .ok (.istore_n 3, 1) := fo_dd DX7_longestRise_0 10 rfl
theorem dX7_longestRise_17 : decode cX7_longestRise 17 = .ok (.iconst 0, 1) := fo_dd DX7_longestRise_0 11 rfl
theorem dX7_longestRise_18 : decode cX7_longestRise 18 = .ok (.istore 4, 2) := fo_dd DX7_longestRise_0 12 rfl
theorem dX7_longestRise_20 : decode cX7_longestRise 20 = .ok (.iload 4, 2) := fo_dd DX7_longestRise_0 13 rfl
theorem dX7_longestRise_22 : decode cX7_longestRise 22 = .ok (.aload_n 0, 1) := fo_dd DX7_longestRise_0 14 rfl
theorem dX7_longestRise_23 : decode cX7_longestRise 23 = .ok (.iload_n 1, 1) := fo_dd DX7_longestRise_0 15 rfl
theorem dX7_longestRise_24 : decode cX7_longestRise 24 = .ok (.invokevirtual 92, 3) := fo_dd DX7_longestRise_0 16 rfl
theorem dX7_longestRise_27 : decode cX7_longestRise 27 = .ok (.if_icmp .ge 52, 3) := fo_dd DX7_longestRise_0 17 rfl
theorem dX7_longestRise_30 : decode cX7_longestRise 30 = .ok (.iload 4, 2) := fo_dd DX7_longestRise_0 18 rfl
theorem dX7_longestRise_32 : decode cX7_longestRise 32 = .ok (.ifCond .le 28, 3) := fo_dd DX7_longestRise_0 19 rfl
theorem dX7_longestRise_35 : decode cX7_longestRise 35 = .ok (.aload_n 0, 1) := fo_dd DX7_longestRise_0 20 rfl
theorem dX7_longestRise_36 : decode cX7_longestRise 36 = .ok (.iload_n 1, 1) := fo_dd DX7_longestRise_0 21 rfl
theorem dX7_longestRise_37 : decode cX7_longestRise 37 = .ok (.iload 4, 2) := fo_dd DX7_longestRise_0 22 rfl
theorem dX7_longestRise_39 : decode cX7_longestRise 39 = .ok (.invokevirtual 142, 3) := fo_dd DX7_longestRise_0 23 rfl
theorem dX7_longestRise_42 : decode cX7_longestRise 42 = .ok (.aload_n 0, 1) := fo_dd DX7_longestRise_0 24 rfl
theorem dX7_longestRise_43 : decode cX7_longestRise 43 = .ok (.iload_n 1, 1) := fo_dd DX7_longestRise_0 25 rfl
theorem dX7_longestRise_44 : decode cX7_longestRise 44 = .ok (.iload 4, 2) := fo_dd DX7_longestRise_0 26 rfl
theorem dX7_longestRise_46 : decode cX7_longestRise 46 = .ok (.iconst 1, 1) := fo_dd DX7_longestRise_0 27 rfl
theorem dX7_longestRise_47 : decode cX7_longestRise 47 = .ok (.isub, 1) := fo_dd DX7_longestRise_0 28 rfl
theorem dX7_longestRise_48 : decode cX7_longestRise 48 = .ok (.invokevirtual 142, 3) := fo_dd DX7_longestRise_0 29 rfl
theorem dX7_longestRise_51 : decode cX7_longestRise 51 = .ok (.if_icmp .le 9, 3) := fo_dd DX7_longestRise_0 30 rfl
theorem dX7_longestRise_54 : decode cX7_longestRise 54 = .ok (.iload_n 3, 1) := fo_dd DX7_longestRise_0 31 rfl
theorem dX7_longestRise_55 : decode cX7_longestRise 55 = .ok (.iconst 1, 1) := fo_dd DX7_longestRise_0 32 rfl
theorem dX7_longestRise_56 : decode cX7_longestRise 56 = .ok (.iadd, 1) := fo_dd DX7_longestRise_0 33 rfl
theorem dX7_longestRise_57 : decode cX7_longestRise 57 = .ok (.goto 4, 3) := fo_dd DX7_longestRise_0 34 rfl
theorem dX7_longestRise_60 : decode cX7_longestRise 60 = .ok (.iconst 1, 1) := fo_dd DX7_longestRise_0 35 rfl
theorem dX7_longestRise_61 : decode cX7_longestRise 61 = .ok (.istore_n 3, 1) := fo_dd DX7_longestRise_0 36 rfl
theorem dX7_longestRise_62 : decode cX7_longestRise 62 = .ok (.iload_n 3, 1) := fo_dd DX7_longestRise_0 37 rfl
theorem dX7_longestRise_63 : decode cX7_longestRise 63 = .ok (.iload_n 2, 1) := fo_dd DX7_longestRise_0 38 rfl
theorem dX7_longestRise_64 : decode cX7_longestRise 64 = .ok (.if_icmp .le 7, 3) := fo_dd DX7_longestRise_0 39 rfl
theorem dX7_longestRise_67 : decode cX7_longestRise 67 = .ok (.iload_n 3, 1) := fo_dd DX7_longestRise_0 40 rfl
theorem dX7_longestRise_68 : decode cX7_longestRise 68 = .ok (.goto 4, 3) := fo_dd DX7_longestRise_0 41 rfl
theorem dX7_longestRise_71 : decode cX7_longestRise 71 = .ok (.iload_n 2, 1) := fo_dd DX7_longestRise_0 42 rfl
theorem dX7_longestRise_72 : decode cX7_longestRise 72 = .ok (.istore_n 2, 1) := fo_dd DX7_longestRise_0 43 rfl
theorem dX7_longestRise_73 : decode cX7_longestRise 73 = .ok (.iinc 4 1, 3) := fo_dd DX7_longestRise_0 44 rfl
theorem dX7_longestRise_76 : decode cX7_longestRise 76 = .ok (.goto (-56), 3) := fo_dd DX7_longestRise_0 45 rfl
theorem dX7_longestRise_79 : decode cX7_longestRise 79 = .ok (.iload_n 2, 1) := fo_dd DX7_longestRise_0 46 rfl
theorem dX7_longestRise_80 : decode cX7_longestRise 80 = .ok (.ireturn, 1) := fo_dd DX7_longestRise_0 47 rfl
theorem DX7_valuesBetween_0 : fo_dl cX7_valuesBetween [(0, .aload_n 0, 1), (1, .iload_n 1, 1), (2, .invokestatic 120, 3), (5, .invokevirtual 135, 3), (8, .ifCond .le 5, 3), (11, .iconst 0, 1), (12, .ireturn, 1), (13, .iconst 0, 1), (14, .istore 4, 2), (16, .iconst 0, 1), (17, .istore 5, 2), (19, .iload 5, 2), (21, .aload_n 0, 1), (22, .iload_n 1, 1), (23, .invokevirtual 92, 3), (26, .if_icmp .ge 34, 3), (29, .iload 4, 2), (31, .aload_n 0, 1), (32, .iload_n 1, 1), (33, .iload 5, 2), (35, .invokevirtual 142, 3), (38, .iload_n 2, 1), (39, .iload_n 3, 1), (40, .invokestatic 88, 3), (43, .ifCond .eq 7, 3), (46, .iconst 1, 1), (47, .goto 4, 3), (50, .iconst 0, 1), (51, .iadd, 1), (52, .istore 4, 2), (54, .iinc 5 1, 3), (57, .goto (-38), 3), (60, .iload 4, 2), (62, .ireturn, 1)] := by decide +kernel
theorem dX7_valuesBetween_0 : decode cX7_valuesBetween 0 = .ok (.aload_n 0, 1) := fo_dd DX7_valuesBetween_0 0 rfl
theorem dX7_valuesBetween_1 : decode cX7_valuesBetween 1 = .ok (.iload_n 1, 1) := fo_dd DX7_valuesBetween_0 1 rfl
theorem dX7_valuesBetween_2 : decode cX7_valuesBetween 2 = .ok (.invokestatic 120, 3) := fo_dd DX7_valuesBetween_0 2 rfl
theorem dX7_valuesBetween_5 : decode cX7_valuesBetween 5 = .ok (.invokevirtual 135, 3) := fo_dd DX7_valuesBetween_0 3 rfl
theorem dX7_valuesBetween_8 : decode cX7_valuesBetween 8 = .ok (.ifCond .le 5, 3) := fo_dd DX7_valuesBetween_0 4 rfl
theorem dX7_valuesBetween_11 : decode cX7_valuesBetween 11 = .ok (.iconst 0, 1) := fo_dd DX7_valuesBetween_0 5 rfl
theorem dX7_valuesBetween_12 : decode cX7_valuesBetween 12 = .ok (.ireturn, 1) := fo_dd DX7_valuesBetween_0 6 rfl
theorem dX7_valuesBetween_13 : decode cX7_valuesBetween 13 = .ok (.iconst 0, 1) := fo_dd DX7_valuesBetween_0 7 rfl
theorem dX7_valuesBetween_14 : decode cX7_valuesBetween 14 = .ok (.istore 4, 2) := fo_dd DX7_valuesBetween_0 8 rfl
theorem dX7_valuesBetween_16 : decode cX7_valuesBetween 16 = .ok (.iconst 0, 1) := fo_dd DX7_valuesBetween_0 9 rfl
theorem dX7_valuesBetween_17 : decode cX7_valuesBetween 17 = .ok (.istore 5, 2) := fo_dd DX7_valuesBetween_0 10 rfl
theorem dX7_valuesBetween_19 : decode cX7_valuesBetween 19 = .ok (.iload 5, 2) := fo_dd DX7_valuesBetween_0 11 rfl
theorem dX7_valuesBetween_21 : decode cX7_valuesBetween 21 = .ok (.aload_n 0, 1) := fo_dd DX7_valuesBetween_0 12 rfl
theorem dX7_valuesBetween_22 : decode cX7_valuesBetween 22 = .ok (.iload_n 1, 1) := fo_dd DX7_valuesBetween_0 13 rfl
theorem dX7_valuesBetween_23 : decode cX7_valuesBetween 23 = .ok (.invokevirtual 92, 3) := fo_dd DX7_valuesBetween_0 14 rfl
theorem dX7_valuesBetween_26 : decode cX7_valuesBetween 26 = .ok (.if_icmp .ge 34, 3) := fo_dd DX7_valuesBetween_0 15 rfl
theorem dX7_valuesBetween_29 : decode cX7_valuesBetween 29 = .ok (.iload 4, 2) := fo_dd DX7_valuesBetween_0 16 rfl
theorem dX7_valuesBetween_31 : decode cX7_valuesBetween 31 = .ok (.aload_n 0, 1) := fo_dd DX7_valuesBetween_0 17 rfl
theorem dX7_valuesBetween_32 : decode cX7_valuesBetween 32 = .ok (.iload_n 1, 1) := fo_dd DX7_valuesBetween_0 18 rfl
theorem dX7_valuesBetween_33 : decode cX7_valuesBetween 33 = .ok (.iload 5, 2) := fo_dd DX7_valuesBetween_0 19 rfl
theorem dX7_valuesBetween_35 : decode cX7_valuesBetween 35 = .ok (.invokevirtual 142, 3) := fo_dd DX7_valuesBetween_0 20 rfl
theorem dX7_valuesBetween_38 : decode cX7_valuesBetween 38 = .ok (.iload_n 2, 1) := fo_dd DX7_valuesBetween_0 21 rfl
theorem dX7_valuesBetween_39 : decode cX7_valuesBetween 39 = .ok (.iload_n 3, 1) := fo_dd DX7_valuesBetween_0 22 rfl
theorem dX7_valuesBetween_40 : decode cX7_valuesBetween 40 = .ok (.invokestatic 88, 3) := fo_dd DX7_valuesBetween_0 23 rfl
theorem dX7_valuesBetween_43 : decode cX7_valuesBetween 43 = .ok (.ifCond .eq 7, 3) := fo_dd DX7_valuesBetween_0 24 rfl
theorem dX7_valuesBetween_46 : decode cX7_valuesBetween 46 = .ok (.iconst 1, 1) := fo_dd DX7_valuesBetween_0 25 rfl
theorem dX7_valuesBetween_47 : decode cX7_valuesBetween 47 = .ok (.goto 4, 3) := fo_dd DX7_valuesBetween_0 26 rfl
theorem dX7_valuesBetween_50 : decode cX7_valuesBetween 50 = .ok (.iconst 0, 1) := fo_dd DX7_valuesBetween_0 27 rfl
theorem dX7_valuesBetween_51 : decode cX7_valuesBetween 51 = .ok (.iadd, 1) := fo_dd DX7_valuesBetween_0 28 rfl
theorem dX7_valuesBetween_52 : decode cX7_valuesBetween 52 = .ok (.istore 4, 2) := fo_dd DX7_valuesBetween_0 29 rfl
theorem dX7_valuesBetween_54 : decode cX7_valuesBetween 54 = .ok (.iinc 5 1, 3) := fo_dd DX7_valuesBetween_0 30 rfl
theorem dX7_valuesBetween_57 : decode cX7_valuesBetween 57 = .ok (.goto (-38), 3) := fo_dd DX7_valuesBetween_0 31 rfl
theorem dX7_valuesBetween_60 : decode cX7_valuesBetween 60 = .ok (.iload 4, 2) := fo_dd DX7_valuesBetween_0 32 rfl
theorem dX7_valuesBetween_62 : decode cX7_valuesBetween 62 = .ok (.ireturn, 1) := fo_dd DX7_valuesBetween_0 33 rfl
theorem DX7_limit_0 : fo_dl cX7_limit [(0, .aload_n 0, 1), (1, .aload_n 0, 1), (2, .getfield 7, 3), (5, .iconst 1, 1), (6, .iaload, 1), (7, .invokevirtual 181, 3), (10, .ireturn, 1)] := by decide +kernel
theorem dX7_limit_0 : decode cX7_limit 0 = .ok (.aload_n 0, 1) := fo_dd DX7_limit_0 0 rfl
theorem dX7_limit_1 : decode cX7_limit 1 = .ok (.aload_n 0, 1) := fo_dd DX7_limit_0 1 rfl
theorem dX7_limit_2 : decode cX7_limit 2 = .ok (.getfield 7, 3) := fo_dd DX7_limit_0 2 rfl
theorem dX7_limit_5 : decode cX7_limit 5 = .ok (.iconst 1, 1) := fo_dd DX7_limit_0 3 rfl
theorem dX7_limit_6 : decode cX7_limit 6 = .ok (.iaload, 1) := fo_dd DX7_limit_0 4 rfl
theorem dX7_limit_7 : decode cX7_limit 7 = .ok (.invokevirtual 181, 3) := fo_dd DX7_limit_0 5 rfl
theorem dX7_limit_10 : decode cX7_limit 10 = .ok (.ireturn, 1) := fo_dd DX7_limit_0 6 rfl
theorem DX7_isProphet_0 : fo_dl cX7_isProphet [(0, .iload_n 1, 1), (1, .iconst 0, 1), (2, .aload_n 0, 1), (3, .getfield 7, 3), (6, .iconst 0, 1), (7, .iaload, 1), (8, .iconst 1, 1), (9, .isub, 1), (10, .invokestatic 88, 3), (13, .ireturn, 1)] := by decide +kernel
theorem dX7_isProphet_0 : decode cX7_isProphet 0 = .ok (.iload_n 1, 1) := fo_dd DX7_isProphet_0 0 rfl
theorem dX7_isProphet_1 : decode cX7_isProphet 1 = .ok (.iconst 0, 1) := fo_dd DX7_isProphet_0 1 rfl
theorem dX7_isProphet_2 : decode cX7_isProphet 2 = .ok (.aload_n 0, 1) := fo_dd DX7_isProphet_0 2 rfl
theorem dX7_isProphet_3 : decode cX7_isProphet 3 = .ok (.getfield 7, 3) := fo_dd DX7_isProphet_0 3 rfl
theorem dX7_isProphet_6 : decode cX7_isProphet 6 = .ok (.iconst 0, 1) := fo_dd DX7_isProphet_0 4 rfl
theorem dX7_isProphet_7 : decode cX7_isProphet 7 = .ok (.iaload, 1) := fo_dd DX7_isProphet_0 5 rfl
theorem dX7_isProphet_8 : decode cX7_isProphet 8 = .ok (.iconst 1, 1) := fo_dd DX7_isProphet_0 6 rfl
theorem dX7_isProphet_9 : decode cX7_isProphet 9 = .ok (.isub, 1) := fo_dd DX7_isProphet_0 7 rfl
theorem dX7_isProphet_10 : decode cX7_isProphet 10 = .ok (.invokestatic 88, 3) := fo_dd DX7_isProphet_0 8 rfl
theorem dX7_isProphet_13 : decode cX7_isProphet 13 = .ok (.ireturn, 1) := fo_dd DX7_isProphet_0 9 rfl
theorem DX7_prophets_0 : fo_dl cX7_prophets [(0, .aload_n 0, 1), (1, .aload_n 0, 1), (2, .getfield 7, 3), (5, .iconst 0, 1), (6, .iaload, 1), (7, .invokevirtual 181, 3), (10, .ireturn, 1)] := by decide +kernel
theorem dX7_prophets_0 : decode cX7_prophets 0 = .ok (.aload_n 0, 1) := fo_dd DX7_prophets_0 0 rfl
theorem dX7_prophets_1 : decode cX7_prophets 1 = .ok (.aload_n 0, 1) := fo_dd DX7_prophets_0 1 rfl
theorem dX7_prophets_2 : decode cX7_prophets 2 = .ok (.getfield 7, 3) := fo_dd DX7_prophets_0 2 rfl
theorem dX7_prophets_5 : decode cX7_prophets 5 = .ok (.iconst 0, 1) := fo_dd DX7_prophets_0 3 rfl
theorem dX7_prophets_6 : decode cX7_prophets 6 = .ok (.iaload, 1) := fo_dd DX7_prophets_0 4 rfl
theorem dX7_prophets_7 : decode cX7_prophets 7 = .ok (.invokevirtual 181, 3) := fo_dd DX7_prophets_0 5 rfl
theorem dX7_prophets_10 : decode cX7_prophets 10 = .ok (.ireturn, 1) := fo_dd DX7_prophets_0 6 rfl
theorem DX7_kind_0 : fo_dl cX7_kind [(0, .aload_n 0, 1), (1, .aload_n 0, 1), (2, .iload_n 1, 1), (3, .invokevirtual 184, 3), (6, .invokevirtual 135, 3), (9, .ifCond .le 8, 3), (12, .bipush 32, 2), (14, .goto 12, 3), (17, .aload_n 0, 1), (18, .getfield 7, 3), (21, .iconst 2, 1), (22, .iload_n 1, 1), (23, .iadd, 1), (24, .iaload, 1), (25, .i2c, 1), (26, .ireturn, 1)] := by decide +kernel
theorem dX7_kind_0 : decode cX7_kind 0 = .ok (.aload_n 0, 1) := fo_dd DX7_kind_0 0 rfl
theorem dX7_kind_1 : decode cX7_kind 1 = .ok (.aload_n 0, 1) := fo_dd DX7_kind_0 1 rfl
theorem dX7_kind_2 : decode cX7_kind 2 = .ok (.iload_n 1, 1) := fo_dd DX7_kind_0 2 rfl
theorem dX7_kind_3 : decode cX7_kind 3 = .ok (.invokevirtual 184, 3) := fo_dd DX7_kind_0 3 rfl
theorem dX7_kind_6 : decode cX7_kind 6 = .ok (.invokevirtual 135, 3) := fo_dd DX7_kind_0 4 rfl
theorem dX7_kind_9 : decode cX7_kind 9 = .ok (.ifCond .le 8, 3) := fo_dd DX7_kind_0 5 rfl
theorem dX7_kind_12 : decode cX7_kind 12 = .ok (.bipush 32, 2) := fo_dd DX7_kind_0 6 rfl
theorem dX7_kind_14 : decode cX7_kind 14 = .ok (.goto 12, 3) := fo_dd DX7_kind_0 7 rfl
theorem dX7_kind_17 : decode cX7_kind 17 = .ok (.aload_n 0, 1) := fo_dd DX7_kind_0 8 rfl
theorem dX7_kind_18 : decode cX7_kind 18 = .ok (.getfield 7, 3) := fo_dd DX7_kind_0 9 rfl
theorem dX7_kind_21 : decode cX7_kind 21 = .ok (.iconst 2, 1) := fo_dd DX7_kind_0 10 rfl
theorem dX7_kind_22 : decode cX7_kind 22 = .ok (.iload_n 1, 1) := fo_dd DX7_kind_0 11 rfl
theorem dX7_kind_23 : decode cX7_kind 23 = .ok (.iadd, 1) := fo_dd DX7_kind_0 12 rfl
theorem dX7_kind_24 : decode cX7_kind 24 = .ok (.iaload, 1) := fo_dd DX7_kind_0 13 rfl
theorem dX7_kind_25 : decode cX7_kind 25 = .ok (.i2c, 1) := fo_dd DX7_kind_0 14 rfl
theorem dX7_kind_26 : decode cX7_kind 26 = .ok (.ireturn, 1) := fo_dd DX7_kind_0 15 rfl
theorem DX7_parameter_0 : fo_dl cX7_parameter [(0, .aload_n 0, 1), (1, .aload_n 0, 1), (2, .iload_n 1, 1), (3, .invokevirtual 184, 3), (6, .invokevirtual 135, 3), (9, .ifCond .le 7, 3), (12, .iconst 0, 1), (13, .goto 12, 3), (16, .aload_n 0, 1), (17, .getfield 7, 3), (20, .bipush 10, 2), (22, .iload_n 1, 1), (23, .iadd, 1), (24, .iaload, 1), (25, .ireturn, 1)] := by decide +kernel
theorem dX7_parameter_0 : decode cX7_parameter 0 = .ok (.aload_n 0, 1) := fo_dd DX7_parameter_0 0 rfl
theorem dX7_parameter_1 : decode cX7_parameter 1 = .ok (.aload_n 0, 1) := fo_dd DX7_parameter_0 1 rfl
theorem dX7_parameter_2 : decode cX7_parameter 2 = .ok (.iload_n 1, 1) := fo_dd DX7_parameter_0 2 rfl
theorem dX7_parameter_3 : decode cX7_parameter 3 = .ok (.invokevirtual 184, 3) := fo_dd DX7_parameter_0 3 rfl
theorem dX7_parameter_6 : decode cX7_parameter 6 = .ok (.invokevirtual 135, 3) := fo_dd DX7_parameter_0 4 rfl
theorem dX7_parameter_9 : decode cX7_parameter 9 = .ok (.ifCond .le 7, 3) := fo_dd DX7_parameter_0 5 rfl
theorem dX7_parameter_12 : decode cX7_parameter 12 = .ok (.iconst 0, 1) := fo_dd DX7_parameter_0 6 rfl
theorem dX7_parameter_13 : decode cX7_parameter 13 = .ok (.goto 12, 3) := fo_dd DX7_parameter_0 7 rfl
theorem dX7_parameter_16 : decode cX7_parameter 16 = .ok (.aload_n 0, 1) := fo_dd DX7_parameter_0 8 rfl
theorem dX7_parameter_17 : decode cX7_parameter 17 = .ok (.getfield 7, 3) := fo_dd DX7_parameter_0 9 rfl
theorem dX7_parameter_20 : decode cX7_parameter 20 = .ok (.bipush 10, 2) := fo_dd DX7_parameter_0 10 rfl
theorem dX7_parameter_22 : decode cX7_parameter 22 = .ok (.iload_n 1, 1) := fo_dd DX7_parameter_0 11 rfl
theorem dX7_parameter_23 : decode cX7_parameter 23 = .ok (.iadd, 1) := fo_dd DX7_parameter_0 12 rfl
theorem dX7_parameter_24 : decode cX7_parameter 24 = .ok (.iaload, 1) := fo_dd DX7_parameter_0 13 rfl
theorem dX7_parameter_25 : decode cX7_parameter 25 = .ok (.ireturn, 1) := fo_dd DX7_parameter_0 14 rfl
theorem DX7_foresees_0 : fo_dl cX7_foresees [(0, .aload_n 0, 1), (1, .getfield 7, 3), (4, .iconst 2, 1), (5, .iload_n 1, 1), (6, .iadd, 1), (7, .iaload, 1), (8, .istore_n 3, 1), (9, .iload_n 2, 1), (10, .iload_n 3, 1), (11, .bipush 109, 2), (13, .if_icmp .eq 9, 3), (16, .iload_n 3, 1), (17, .bipush 100, 2), (19, .if_icmp .ne 15, 3), (22, .aload_n 0, 1), (23, .getfield 7, 3), (26, .bipush 10, 2), (28, .iload_n 1, 1), (29, .iadd, 1), (30, .iaload, 1), (31, .goto 14, 3), (34, .iload_n 3, 1), (35, .bipush 116, 2), (37, .if_icmp .ne 7, 3), (40, .iconst 2, 1), (41, .goto 4, 3), (44, .iconst 1, 1), (45, .if_icmp .lt 7, 3), (48, .iconst 1, 1), (49, .goto 4, 3), (52, .iconst 0, 1), (53, .ireturn, 1)] := by decide +kernel
theorem dX7_foresees_0 : decode cX7_foresees 0 = .ok (.aload_n 0, 1) := fo_dd DX7_foresees_0 0 rfl
theorem dX7_foresees_1 : decode cX7_foresees 1 = .ok (.getfield 7, 3) := fo_dd DX7_foresees_0 1 rfl
theorem dX7_foresees_4 : decode cX7_foresees 4 = .ok (.iconst 2, 1) := fo_dd DX7_foresees_0 2 rfl
theorem dX7_foresees_5 : decode cX7_foresees 5 = .ok (.iload_n 1, 1) := fo_dd DX7_foresees_0 3 rfl
theorem dX7_foresees_6 : decode cX7_foresees 6 = .ok (.iadd, 1) := fo_dd DX7_foresees_0 4 rfl
theorem dX7_foresees_7 : decode cX7_foresees 7 = .ok (.iaload, 1) := fo_dd DX7_foresees_0 5 rfl
theorem dX7_foresees_8 : decode cX7_foresees 8 = .ok (.istore_n 3, 1) := fo_dd DX7_foresees_0 6 rfl
theorem dX7_foresees_9 : decode cX7_foresees 9 = .ok (.iload_n 2, 1) := fo_dd DX7_foresees_0 7 rfl
theorem dX7_foresees_10 : decode cX7_foresees 10 = .ok (.iload_n 3, 1) := fo_dd DX7_foresees_0 8 rfl
theorem dX7_foresees_11 : decode cX7_foresees 11 = .ok (.bipush 109, 2) := fo_dd DX7_foresees_0 9 rfl
theorem dX7_foresees_13 : decode cX7_foresees 13 = .ok (.if_icmp .eq 9, 3) := fo_dd DX7_foresees_0 10 rfl
theorem dX7_foresees_16 : decode cX7_foresees 16 = .ok (.iload_n 3, 1) := fo_dd DX7_foresees_0 11 rfl
theorem dX7_foresees_17 : decode cX7_foresees 17 = .ok (.bipush 100, 2) := fo_dd DX7_foresees_0 12 rfl
theorem dX7_foresees_19 : decode cX7_foresees 19 = .ok (.if_icmp .ne 15, 3) := fo_dd DX7_foresees_0 13 rfl
theorem dX7_foresees_22 : decode cX7_foresees 22 = .ok (.aload_n 0, 1) := fo_dd DX7_foresees_0 14 rfl
theorem dX7_foresees_23 : decode cX7_foresees 23 = .ok (.getfield 7, 3) := fo_dd DX7_foresees_0 15 rfl
theorem dX7_foresees_26 : decode cX7_foresees 26 = .ok (.bipush 10, 2) := fo_dd DX7_foresees_0 16 rfl
theorem dX7_foresees_28 : decode cX7_foresees 28 = .ok (.iload_n 1, 1) := fo_dd DX7_foresees_0 17 rfl
theorem dX7_foresees_29 : decode cX7_foresees 29 = .ok (.iadd, 1) := fo_dd DX7_foresees_0 18 rfl
theorem dX7_foresees_30 : decode cX7_foresees 30 = .ok (.iaload, 1) := fo_dd DX7_foresees_0 19 rfl
theorem dX7_foresees_31 : decode cX7_foresees 31 = .ok (.goto 14, 3) := fo_dd DX7_foresees_0 20 rfl
theorem dX7_foresees_34 : decode cX7_foresees 34 = .ok (.iload_n 3, 1) := fo_dd DX7_foresees_0 21 rfl
theorem dX7_foresees_35 : decode cX7_foresees 35 = .ok (.bipush 116, 2) := fo_dd DX7_foresees_0 22 rfl
theorem dX7_foresees_37 : decode cX7_foresees 37 = .ok (.if_icmp .ne 7, 3) := fo_dd DX7_foresees_0 23 rfl
theorem dX7_foresees_40 : decode cX7_foresees 40 = .ok (.iconst 2, 1) := fo_dd DX7_foresees_0 24 rfl
theorem dX7_foresees_41 : decode cX7_foresees 41 = .ok (.goto 4, 3) := fo_dd DX7_foresees_0 25 rfl
theorem dX7_foresees_44 : decode cX7_foresees 44 = .ok (.iconst 1, 1) := fo_dd DX7_foresees_0 26 rfl
theorem dX7_foresees_45 : decode cX7_foresees 45 = .ok (.if_icmp .lt 7, 3) := fo_dd DX7_foresees_0 27 rfl
theorem dX7_foresees_48 : decode cX7_foresees 48 = .ok (.iconst 1, 1) := fo_dd DX7_foresees_0 28 rfl
theorem dX7_foresees_49 : decode cX7_foresees 49 = .ok (.goto 4, 3) := fo_dd DX7_foresees_0 29 rfl
theorem dX7_foresees_52 : decode cX7_foresees 52 = .ok (.iconst 0, 1) := fo_dd DX7_foresees_0 30 rfl
theorem dX7_foresees_53 : decode cX7_foresees 53 = .ok (.ireturn, 1) := fo_dd DX7_foresees_0 31 rfl
theorem DX7_foreseen_0 : fo_dl cX7_foreseen [(0, .aload_n 0, 1), (1, .getfield 7, 3), (4, .iconst 2, 1), (5, .iload_n 1, 1), (6, .iadd, 1), (7, .iaload, 1), (8, .istore 4, 2), (10, .aload_n 0, 1), (11, .getfield 7, 3), (14, .bipush 10, 2), (16, .iload_n 1, 1), (17, .iadd, 1), (18, .iaload, 1), (19, .istore 5, 2), (21, .iload 4, 2), (23, .bipush 108, 2), (25, .if_icmp .ne 13, 3), (28, .aload_n 0, 1), (29, .iload_n 2, 1), (30, .iload_n 3, 1), (31, .iconst 1, 1), (32, .isub, 1), (33, .invokevirtual 142, 3), (36, .i2d, 1), (37, .dreturn, 1), (38, .iload 4, 2), (40, .bipush 109, 2), (42, .if_icmp .ne 12, 3), (45, .aload_n 0, 1), (46, .iload_n 2, 1), (47, .iload_n 3, 1), (48, .iload 5, 2), (50, .invokevirtual 148, 3), (53, .dreturn, 1), (54, .iload 4, 2), (56, .bipush 100, 2), (58, .if_icmp .ne 13, 3), (61, .aload_n 0, 1), (62, .iload_n 2, 1), (63, .iload_n 3, 1), (64, .iload 5, 2), (66, .invokevirtual 159, 3), (69, .i2d, 1), (70, .dreturn, 1), (71, .iload 4, 2), (73, .bipush 116, 2), (75, .if_icmp .ne 24, 3), (78, .iconst 2, 1), (79, .aload_n 0, 1), (80, .iload_n 2, 1), (81, .iload_n 3, 1), (82, .iconst 1, 1), (83, .isub, 1), (84, .invokevirtual 142, 3), (87, .imul, 1), (88, .aload_n 0, 1), (89, .iload_n 2, 1), (90, .iload_n 3, 1), (91, .iconst 2, 1), (92, .isub, 1), (93, .invokevirtual 142, 3), (96, .isub, 1), (97, .i2d, 1), (98, .dreturn, 1)] := by decide +kernel
theorem dX7_foreseen_0 : decode cX7_foreseen 0 = .ok (.aload_n 0, 1) := fo_dd DX7_foreseen_0 0 rfl
theorem dX7_foreseen_1 : decode cX7_foreseen 1 = .ok (.getfield 7, 3) := fo_dd DX7_foreseen_0 1 rfl
theorem dX7_foreseen_4 : decode cX7_foreseen 4 = .ok (.iconst 2, 1) := fo_dd DX7_foreseen_0 2 rfl
theorem dX7_foreseen_5 : decode cX7_foreseen 5 = .ok (.iload_n 1, 1) := fo_dd DX7_foreseen_0 3 rfl
theorem dX7_foreseen_6 : decode cX7_foreseen 6 = .ok (.iadd, 1) := fo_dd DX7_foreseen_0 4 rfl
theorem dX7_foreseen_7 : decode cX7_foreseen 7 = .ok (.iaload, 1) := fo_dd DX7_foreseen_0 5 rfl
theorem dX7_foreseen_8 : decode cX7_foreseen 8 = .ok (.istore 4, 2) := fo_dd DX7_foreseen_0 6 rfl
theorem dX7_foreseen_10 : decode cX7_foreseen 10 = .ok (.aload_n 0, 1) := fo_dd DX7_foreseen_0 7 rfl
theorem dX7_foreseen_11 : decode cX7_foreseen 11 = .ok (.getfield 7, 3) := fo_dd DX7_foreseen_0 8 rfl
theorem dX7_foreseen_14 : decode cX7_foreseen 14 = .ok (.bipush 10, 2) := fo_dd DX7_foreseen_0 9 rfl
theorem dX7_foreseen_16 : decode cX7_foreseen 16 = .ok (.iload_n 1, 1) := fo_dd DX7_foreseen_0 10 rfl
theorem dX7_foreseen_17 : decode cX7_foreseen 17 = .ok (.iadd, 1) := fo_dd DX7_foreseen_0 11 rfl
theorem dX7_foreseen_18 : decode cX7_foreseen 18 = .ok (.iaload, 1) := fo_dd DX7_foreseen_0 12 rfl
theorem dX7_foreseen_19 : decode cX7_foreseen 19 = .ok (.istore 5, 2) := fo_dd DX7_foreseen_0 13 rfl
theorem dX7_foreseen_21 : decode cX7_foreseen 21 = .ok (.iload 4, 2) := fo_dd DX7_foreseen_0 14 rfl
theorem dX7_foreseen_23 : decode cX7_foreseen 23 = .ok (.bipush 108, 2) := fo_dd DX7_foreseen_0 15 rfl
theorem dX7_foreseen_25 : decode cX7_foreseen 25 = .ok (.if_icmp .ne 13, 3) := fo_dd DX7_foreseen_0 16 rfl
theorem dX7_foreseen_28 : decode cX7_foreseen 28 = .ok (.aload_n 0, 1) := fo_dd DX7_foreseen_0 17 rfl
theorem dX7_foreseen_29 : decode cX7_foreseen 29 = .ok (.iload_n 2, 1) := fo_dd DX7_foreseen_0 18 rfl
theorem dX7_foreseen_30 : decode cX7_foreseen 30 = .ok (.iload_n 3, 1) := fo_dd DX7_foreseen_0 19 rfl
theorem dX7_foreseen_31 : decode cX7_foreseen 31 = .ok (.iconst 1, 1) := fo_dd DX7_foreseen_0 20 rfl
theorem dX7_foreseen_32 : decode cX7_foreseen 32 = .ok (.isub, 1) := fo_dd DX7_foreseen_0 21 rfl
theorem dX7_foreseen_33 : decode cX7_foreseen 33 = .ok (.invokevirtual 142, 3) := fo_dd DX7_foreseen_0 22 rfl
theorem dX7_foreseen_36 : decode cX7_foreseen 36 = .ok (.i2d, 1) := fo_dd DX7_foreseen_0 23 rfl
theorem dX7_foreseen_37 : decode cX7_foreseen 37 = .ok (.dreturn, 1) := fo_dd DX7_foreseen_0 24 rfl
theorem dX7_foreseen_38 : decode cX7_foreseen 38 = .ok (.iload 4, 2) := fo_dd DX7_foreseen_0 25 rfl
theorem dX7_foreseen_40 : decode cX7_foreseen 40 = .ok (.bipush 109, 2) := fo_dd DX7_foreseen_0 26 rfl
theorem dX7_foreseen_42 : decode cX7_foreseen 42 = .ok (.if_icmp .ne 12, 3) := fo_dd DX7_foreseen_0 27 rfl
theorem dX7_foreseen_45 : decode cX7_foreseen 45 = .ok (.aload_n 0, 1) := fo_dd DX7_foreseen_0 28 rfl
theorem dX7_foreseen_46 : decode cX7_foreseen 46 = .ok (.iload_n 2, 1) := fo_dd DX7_foreseen_0 29 rfl
theorem dX7_foreseen_47 : decode cX7_foreseen 47 = .ok (.iload_n 3, 1) := fo_dd DX7_foreseen_0 30 rfl
theorem dX7_foreseen_48 : decode cX7_foreseen 48 = .ok (.iload 5, 2) := fo_dd DX7_foreseen_0 31 rfl
theorem dX7_foreseen_50 : decode cX7_foreseen 50 = .ok (.invokevirtual 148, 3) := fo_dd DX7_foreseen_0 32 rfl
theorem dX7_foreseen_53 : decode cX7_foreseen 53 = .ok (.dreturn, 1) := fo_dd DX7_foreseen_0 33 rfl
theorem dX7_foreseen_54 : decode cX7_foreseen 54 = .ok (.iload 4, 2) := fo_dd DX7_foreseen_0 34 rfl
theorem dX7_foreseen_56 : decode cX7_foreseen 56 = .ok (.bipush 100, 2) := fo_dd DX7_foreseen_0 35 rfl
theorem dX7_foreseen_58 : decode cX7_foreseen 58 = .ok (.if_icmp .ne 13, 3) := fo_dd DX7_foreseen_0 36 rfl
theorem dX7_foreseen_61 : decode cX7_foreseen 61 = .ok (.aload_n 0, 1) := fo_dd DX7_foreseen_0 37 rfl
theorem dX7_foreseen_62 : decode cX7_foreseen 62 = .ok (.iload_n 2, 1) := fo_dd DX7_foreseen_0 38 rfl
theorem dX7_foreseen_63 : decode cX7_foreseen 63 = .ok (.iload_n 3, 1) := fo_dd DX7_foreseen_0 39 rfl
theorem dX7_foreseen_64 : decode cX7_foreseen 64 = .ok (.iload 5, 2) := fo_dd DX7_foreseen_0 40 rfl
theorem dX7_foreseen_66 : decode cX7_foreseen 66 = .ok (.invokevirtual 159, 3) := fo_dd DX7_foreseen_0 41 rfl
theorem dX7_foreseen_69 : decode cX7_foreseen 69 = .ok (.i2d, 1) := fo_dd DX7_foreseen_0 42 rfl
theorem dX7_foreseen_70 : decode cX7_foreseen 70 = .ok (.dreturn, 1) := fo_dd DX7_foreseen_0 43 rfl
theorem dX7_foreseen_71 : decode cX7_foreseen 71 = .ok (.iload 4, 2) := fo_dd DX7_foreseen_0 44 rfl
theorem dX7_foreseen_73 : decode cX7_foreseen 73 = .ok (.bipush 116, 2) := fo_dd DX7_foreseen_0 45 rfl
theorem dX7_foreseen_75 : decode cX7_foreseen 75 = .ok (.if_icmp .ne 24, 3) := fo_dd DX7_foreseen_0 46 rfl
theorem dX7_foreseen_78 : decode cX7_foreseen 78 = .ok (.iconst 2, 1) := fo_dd DX7_foreseen_0 47 rfl
theorem dX7_foreseen_79 : decode cX7_foreseen 79 = .ok (.aload_n 0, 1) := fo_dd DX7_foreseen_0 48 rfl
theorem dX7_foreseen_80 : decode cX7_foreseen 80 = .ok (.iload_n 2, 1) := fo_dd DX7_foreseen_0 49 rfl
theorem dX7_foreseen_81 : decode cX7_foreseen 81 = .ok (.iload_n 3, 1) := fo_dd DX7_foreseen_0 50 rfl
theorem dX7_foreseen_82 : decode cX7_foreseen 82 = .ok (.iconst 1, 1) := fo_dd DX7_foreseen_0 51 rfl
theorem dX7_foreseen_83 : decode cX7_foreseen 83 = .ok (.isub, 1) := fo_dd DX7_foreseen_0 52 rfl
theorem dX7_foreseen_84 : decode cX7_foreseen 84 = .ok (.invokevirtual 142, 3) := fo_dd DX7_foreseen_0 53 rfl
theorem dX7_foreseen_87 : decode cX7_foreseen 87 = .ok (.imul, 1) := fo_dd DX7_foreseen_0 54 rfl
theorem dX7_foreseen_88 : decode cX7_foreseen 88 = .ok (.aload_n 0, 1) := fo_dd DX7_foreseen_0 55 rfl
theorem dX7_foreseen_89 : decode cX7_foreseen 89 = .ok (.iload_n 2, 1) := fo_dd DX7_foreseen_0 56 rfl
theorem dX7_foreseen_90 : decode cX7_foreseen 90 = .ok (.iload_n 3, 1) := fo_dd DX7_foreseen_0 57 rfl
theorem dX7_foreseen_91 : decode cX7_foreseen 91 = .ok (.iconst 2, 1) := fo_dd DX7_foreseen_0 58 rfl
theorem dX7_foreseen_92 : decode cX7_foreseen 92 = .ok (.isub, 1) := fo_dd DX7_foreseen_0 59 rfl
theorem dX7_foreseen_93 : decode cX7_foreseen 93 = .ok (.invokevirtual 142, 3) := fo_dd DX7_foreseen_0 60 rfl
theorem dX7_foreseen_96 : decode cX7_foreseen 96 = .ok (.isub, 1) := fo_dd DX7_foreseen_0 61 rfl
theorem dX7_foreseen_97 : decode cX7_foreseen 97 = .ok (.i2d, 1) := fo_dd DX7_foreseen_0 62 rfl
theorem dX7_foreseen_98 : decode cX7_foreseen 98 = .ok (.dreturn, 1) := fo_dd DX7_foreseen_0 63 rfl
theorem DX7_foreseen_1 : fo_dl cX7_foreseen [(99, .aload_n 0, 1), (100, .iload_n 2, 1), (101, .iload_n 3, 1), (102, .iload 5, 2), (104, .invokevirtual 168, 3), (107, .dreturn, 1)] := by decide +kernel
theorem dX7_foreseen_99 : decode cX7_foreseen 99 = .ok (.aload_n 0, 1) := fo_dd DX7_foreseen_1 0 rfl
theorem dX7_foreseen_100 : decode cX7_foreseen 100 = .ok (.iload_n 2, 1) := fo_dd DX7_foreseen_1 1 rfl
theorem dX7_foreseen_101 : decode cX7_foreseen 101 = .ok (.iload_n 3, 1) := fo_dd DX7_foreseen_1 2 rfl
theorem dX7_foreseen_102 : decode cX7_foreseen 102 = .ok (.iload 5, 2) := fo_dd DX7_foreseen_1 3 rfl
theorem dX7_foreseen_104 : decode cX7_foreseen 104 = .ok (.invokevirtual 168, 3) := fo_dd DX7_foreseen_1 4 rfl
theorem dX7_foreseen_107 : decode cX7_foreseen 107 = .ok (.dreturn, 1) := fo_dd DX7_foreseen_1 5 rfl
theorem DX7_isPair_0 : fo_dl cX7_isPair [(0, .aload_n 0, 1), (1, .aload_n 0, 1), (2, .iload_n 1, 1), (3, .invokevirtual 184, 3), (6, .ifCond .eq 14, 3), (9, .iload_n 2, 1), (10, .invokestatic 120, 3), (13, .ifCond .eq 7, 3), (16, .iconst 1, 1), (17, .goto 4, 3), (20, .iconst 0, 1), (21, .invokevirtual 135, 3), (24, .ifCond .ne 7, 3), (27, .iconst 1, 1), (28, .goto 4, 3), (31, .iconst 0, 1), (32, .ireturn, 1)] := by decide +kernel
theorem dX7_isPair_0 : decode cX7_isPair 0 = .ok (.aload_n 0, 1) := fo_dd DX7_isPair_0 0 rfl
theorem dX7_isPair_1 : decode cX7_isPair 1 = .ok (.aload_n 0, 1) := fo_dd DX7_isPair_0 1 rfl
theorem dX7_isPair_2 : decode cX7_isPair 2 = .ok (.iload_n 1, 1) := fo_dd DX7_isPair_0 2 rfl
theorem dX7_isPair_3 : decode cX7_isPair 3 = .ok (.invokevirtual 184, 3) := fo_dd DX7_isPair_0 3 rfl
theorem dX7_isPair_6 : decode cX7_isPair 6 = .ok (.ifCond .eq 14, 3) := fo_dd DX7_isPair_0 4 rfl
theorem dX7_isPair_9 : decode cX7_isPair 9 = .ok (.iload_n 2, 1) := fo_dd DX7_isPair_0 5 rfl
theorem dX7_isPair_10 : decode cX7_isPair 10 = .ok (.invokestatic 120, 3) := fo_dd DX7_isPair_0 6 rfl
theorem dX7_isPair_13 : decode cX7_isPair 13 = .ok (.ifCond .eq 7, 3) := fo_dd DX7_isPair_0 7 rfl
theorem dX7_isPair_16 : decode cX7_isPair 16 = .ok (.iconst 1, 1) := fo_dd DX7_isPair_0 8 rfl
theorem dX7_isPair_17 : decode cX7_isPair 17 = .ok (.goto 4, 3) := fo_dd DX7_isPair_0 9 rfl
theorem dX7_isPair_20 : decode cX7_isPair 20 = .ok (.iconst 0, 1) := fo_dd DX7_isPair_0 10 rfl
theorem dX7_isPair_21 : decode cX7_isPair 21 = .ok (.invokevirtual 135, 3) := fo_dd DX7_isPair_0 11 rfl
theorem dX7_isPair_24 : decode cX7_isPair 24 = .ok (.ifCond .ne 7, 3) := fo_dd DX7_isPair_0 12 rfl
theorem dX7_isPair_27 : decode cX7_isPair 27 = .ok (.iconst 1, 1) := fo_dd DX7_isPair_0 13 rfl
theorem dX7_isPair_28 : decode cX7_isPair 28 = .ok (.goto 4, 3) := fo_dd DX7_isPair_0 14 rfl
theorem dX7_isPair_31 : decode cX7_isPair 31 = .ok (.iconst 0, 1) := fo_dd DX7_isPair_0 15 rfl
theorem dX7_isPair_32 : decode cX7_isPair 32 = .ok (.ireturn, 1) := fo_dd DX7_isPair_0 16 rfl
theorem DX7_hasForecast_0 : fo_dl cX7_hasForecast [(0, .aload_n 0, 1), (1, .iload_n 1, 1), (2, .iload_n 2, 1), (3, .invokevirtual 187, 3), (6, .ifCond .eq 20, 3), (9, .aload_n 0, 1), (10, .iload_n 1, 1), (11, .aload_n 0, 1), (12, .iload_n 2, 1), (13, .invokevirtual 92, 3), (16, .invokevirtual 190, 3), (19, .ifCond .eq 7, 3), (22, .iconst 1, 1), (23, .goto 4, 3), (26, .iconst 0, 1), (27, .ireturn, 1)] := by decide +kernel
theorem dX7_hasForecast_0 : decode cX7_hasForecast 0 = .ok (.aload_n 0, 1) := fo_dd DX7_hasForecast_0 0 rfl
theorem dX7_hasForecast_1 : decode cX7_hasForecast 1 = .ok (.iload_n 1, 1) := fo_dd DX7_hasForecast_0 1 rfl
theorem dX7_hasForecast_2 : decode cX7_hasForecast 2 = .ok (.iload_n 2, 1) := fo_dd DX7_hasForecast_0 2 rfl
theorem dX7_hasForecast_3 : decode cX7_hasForecast 3 = .ok (.invokevirtual 187, 3) := fo_dd DX7_hasForecast_0 3 rfl
theorem dX7_hasForecast_6 : decode cX7_hasForecast 6 = .ok (.ifCond .eq 20, 3) := fo_dd DX7_hasForecast_0 4 rfl
theorem dX7_hasForecast_9 : decode cX7_hasForecast 9 = .ok (.aload_n 0, 1) := fo_dd DX7_hasForecast_0 5 rfl
theorem dX7_hasForecast_10 : decode cX7_hasForecast 10 = .ok (.iload_n 1, 1) := fo_dd DX7_hasForecast_0 6 rfl
theorem dX7_hasForecast_11 : decode cX7_hasForecast 11 = .ok (.aload_n 0, 1) := fo_dd DX7_hasForecast_0 7 rfl
theorem dX7_hasForecast_12 : decode cX7_hasForecast 12 = .ok (.iload_n 2, 1) := fo_dd DX7_hasForecast_0 8 rfl
theorem dX7_hasForecast_13 : decode cX7_hasForecast 13 = .ok (.invokevirtual 92, 3) := fo_dd DX7_hasForecast_0 9 rfl
theorem dX7_hasForecast_16 : decode cX7_hasForecast 16 = .ok (.invokevirtual 190, 3) := fo_dd DX7_hasForecast_0 10 rfl
theorem dX7_hasForecast_19 : decode cX7_hasForecast 19 = .ok (.ifCond .eq 7, 3) := fo_dd DX7_hasForecast_0 11 rfl
theorem dX7_hasForecast_22 : decode cX7_hasForecast 22 = .ok (.iconst 1, 1) := fo_dd DX7_hasForecast_0 12 rfl
theorem dX7_hasForecast_23 : decode cX7_hasForecast 23 = .ok (.goto 4, 3) := fo_dd DX7_hasForecast_0 13 rfl
theorem dX7_hasForecast_26 : decode cX7_hasForecast 26 = .ok (.iconst 0, 1) := fo_dd DX7_hasForecast_0 14 rfl
theorem dX7_hasForecast_27 : decode cX7_hasForecast 27 = .ok (.ireturn, 1) := fo_dd DX7_hasForecast_0 15 rfl
theorem DX7_next_0 : fo_dl cX7_next [(0, .aload_n 0, 1), (1, .iload_n 1, 1), (2, .iload_n 2, 1), (3, .invokevirtual 187, 3), (6, .ifCond .ne 5, 3), (9, .dconst 0, 1), (10, .dreturn, 1), (11, .aload_n 0, 1), (12, .aload_n 0, 1), (13, .iload_n 1, 1), (14, .aload_n 0, 1), (15, .iload_n 2, 1), (16, .invokevirtual 92, 3), (19, .invokevirtual 190, 3), (22, .ifCond .eq 7, 3), (25, .iconst 0, 1), (26, .goto 4, 3), (29, .iconst 2, 1), (30, .putfield 25, 3), (33, .aload_n 0, 1), (34, .getfield 25, 3), (37, .ifCond .le 7, 3), (40, .dconst 0, 1), (41, .goto 14, 3), (44, .aload_n 0, 1), (45, .iload_n 1, 1), (46, .iload_n 2, 1), (47, .aload_n 0, 1), (48, .iload_n 2, 1), (49, .invokevirtual 92, 3), (52, .invokevirtual 193, 3), (55, .dreturn, 1)] := by decide +kernel
theorem dX7_next_0 : decode cX7_next 0 = .ok (.aload_n 0, 1) := fo_dd DX7_next_0 0 rfl
theorem dX7_next_1 : decode cX7_next 1 = .ok (.iload_n 1, 1) := fo_dd DX7_next_0 1 rfl
theorem dX7_next_2 : decode cX7_next 2 = .ok (.iload_n 2, 1) := fo_dd DX7_next_0 2 rfl
theorem dX7_next_3 : decode cX7_next 3 = .ok (.invokevirtual 187, 3) := fo_dd DX7_next_0 3 rfl
theorem dX7_next_6 : decode cX7_next 6 = .ok (.ifCond .ne 5, 3) := fo_dd DX7_next_0 4 rfl
theorem dX7_next_9 : decode cX7_next 9 = .ok (.dconst 0, 1) := fo_dd DX7_next_0 5 rfl
theorem dX7_next_10 : decode cX7_next 10 = .ok (.dreturn, 1) := fo_dd DX7_next_0 6 rfl
theorem dX7_next_11 : decode cX7_next 11 = .ok (.aload_n 0, 1) := fo_dd DX7_next_0 7 rfl
theorem dX7_next_12 : decode cX7_next 12 = .ok (.aload_n 0, 1) := fo_dd DX7_next_0 8 rfl
theorem dX7_next_13 : decode cX7_next 13 = .ok (.iload_n 1, 1) := fo_dd DX7_next_0 9 rfl
theorem dX7_next_14 : decode cX7_next 14 = .ok (.aload_n 0, 1) := fo_dd DX7_next_0 10 rfl
theorem dX7_next_15 : decode cX7_next 15 = .ok (.iload_n 2, 1) := fo_dd DX7_next_0 11 rfl
theorem dX7_next_16 : decode cX7_next 16 = .ok (.invokevirtual 92, 3) := fo_dd DX7_next_0 12 rfl
theorem dX7_next_19 : decode cX7_next 19 = .ok (.invokevirtual 190, 3) := fo_dd DX7_next_0 13 rfl
theorem dX7_next_22 : decode cX7_next 22 = .ok (.ifCond .eq 7, 3) := fo_dd DX7_next_0 14 rfl
theorem dX7_next_25 : decode cX7_next 25 = .ok (.iconst 0, 1) := fo_dd DX7_next_0 15 rfl
theorem dX7_next_26 : decode cX7_next 26 = .ok (.goto 4, 3) := fo_dd DX7_next_0 16 rfl
theorem dX7_next_29 : decode cX7_next 29 = .ok (.iconst 2, 1) := fo_dd DX7_next_0 17 rfl
theorem dX7_next_30 : decode cX7_next 30 = .ok (.putfield 25, 3) := fo_dd DX7_next_0 18 rfl
theorem dX7_next_33 : decode cX7_next 33 = .ok (.aload_n 0, 1) := fo_dd DX7_next_0 19 rfl
theorem dX7_next_34 : decode cX7_next 34 = .ok (.getfield 25, 3) := fo_dd DX7_next_0 20 rfl
theorem dX7_next_37 : decode cX7_next 37 = .ok (.ifCond .le 7, 3) := fo_dd DX7_next_0 21 rfl
theorem dX7_next_40 : decode cX7_next 40 = .ok (.dconst 0, 1) := fo_dd DX7_next_0 22 rfl
theorem dX7_next_41 : decode cX7_next 41 = .ok (.goto 14, 3) := fo_dd DX7_next_0 23 rfl
theorem dX7_next_44 : decode cX7_next 44 = .ok (.aload_n 0, 1) := fo_dd DX7_next_0 24 rfl
theorem dX7_next_45 : decode cX7_next 45 = .ok (.iload_n 1, 1) := fo_dd DX7_next_0 25 rfl
theorem dX7_next_46 : decode cX7_next 46 = .ok (.iload_n 2, 1) := fo_dd DX7_next_0 26 rfl
theorem dX7_next_47 : decode cX7_next 47 = .ok (.aload_n 0, 1) := fo_dd DX7_next_0 27 rfl
theorem dX7_next_48 : decode cX7_next 48 = .ok (.iload_n 2, 1) := fo_dd DX7_next_0 28 rfl
theorem dX7_next_49 : decode cX7_next 49 = .ok (.invokevirtual 92, 3) := fo_dd DX7_next_0 29 rfl
theorem dX7_next_52 : decode cX7_next 52 = .ok (.invokevirtual 193, 3) := fo_dd DX7_next_0 30 rfl
theorem dX7_next_55 : decode cX7_next 55 = .ok (.dreturn, 1) := fo_dd DX7_next_0 31 rfl
theorem DX7_forecast_0 : fo_dl cX7_forecast [(0, .aload_n 0, 1), (1, .iload_n 1, 1), (2, .iload_n 2, 1), (3, .invokevirtual 196, 3), (6, .dreturn, 1)] := by decide +kernel
theorem dX7_forecast_0 : decode cX7_forecast 0 = .ok (.aload_n 0, 1) := fo_dd DX7_forecast_0 0 rfl
theorem dX7_forecast_1 : decode cX7_forecast 1 = .ok (.iload_n 1, 1) := fo_dd DX7_forecast_0 1 rfl
theorem dX7_forecast_2 : decode cX7_forecast 2 = .ok (.iload_n 2, 1) := fo_dd DX7_forecast_0 2 rfl
theorem dX7_forecast_3 : decode cX7_forecast 3 = .ok (.invokevirtual 196, 3) := fo_dd DX7_forecast_0 3 rfl
theorem dX7_forecast_6 : decode cX7_forecast 6 = .ok (.dreturn, 1) := fo_dd DX7_forecast_0 4 rfl
theorem DX7_forecastBits_0 : fo_dl cX7_forecastBits [(0, .aload_n 0, 1), (1, .iload_n 1, 1), (2, .iload_n 2, 1), (3, .invokevirtual 196, 3), (6, .dstore_n 3, 1), (7, .aload_n 0, 1), (8, .getfield 25, 3), (11, .ifCond .le 7, 3), (14, .lconst 0, 1), (15, .goto 7, 3), (18, .dload_n 3, 1), (19, .invokestatic 199, 3), (22, .lreturn, 1)] := by decide +kernel
theorem dX7_forecastBits_0 : decode cX7_forecastBits 0 = .ok (.aload_n 0, 1) := fo_dd DX7_forecastBits_0 0 rfl
theorem dX7_forecastBits_1 : decode cX7_forecastBits 1 = .ok (.iload_n 1, 1) := fo_dd DX7_forecastBits_0 1 rfl
theorem dX7_forecastBits_2 : decode cX7_forecastBits 2 = .ok (.iload_n 2, 1) := fo_dd DX7_forecastBits_0 2 rfl
theorem dX7_forecastBits_3 : decode cX7_forecastBits 3 = .ok (.invokevirtual 196, 3) := fo_dd DX7_forecastBits_0 3 rfl
theorem dX7_forecastBits_6 : decode cX7_forecastBits 6 = .ok (.dstore_n 3, 1) := fo_dd DX7_forecastBits_0 4 rfl
theorem dX7_forecastBits_7 : decode cX7_forecastBits 7 = .ok (.aload_n 0, 1) := fo_dd DX7_forecastBits_0 5 rfl
theorem dX7_forecastBits_8 : decode cX7_forecastBits 8 = .ok (.getfield 25, 3) := fo_dd DX7_forecastBits_0 6 rfl
theorem dX7_forecastBits_11 : decode cX7_forecastBits 11 = .ok (.ifCond .le 7, 3) := fo_dd DX7_forecastBits_0 7 rfl
theorem dX7_forecastBits_14 : decode cX7_forecastBits 14 = .ok (.lconst 0, 1) := fo_dd DX7_forecastBits_0 8 rfl
theorem dX7_forecastBits_15 : decode cX7_forecastBits 15 = .ok (.goto 7, 3) := fo_dd DX7_forecastBits_0 9 rfl
theorem dX7_forecastBits_18 : decode cX7_forecastBits 18 = .ok (.dload_n 3, 1) := fo_dd DX7_forecastBits_0 10 rfl
theorem dX7_forecastBits_19 : decode cX7_forecastBits 19 = .ok (.invokestatic 199, 3) := fo_dd DX7_forecastBits_0 11 rfl
theorem dX7_forecastBits_22 : decode cX7_forecastBits 22 = .ok (.lreturn, 1) := fo_dd DX7_forecastBits_0 12 rfl
theorem DX7_error_0 : fo_dl cX7_error [(0, .aload_n 0, 1), (1, .iload_n 1, 1), (2, .iload_n 2, 1), (3, .iload_n 3, 1), (4, .invokevirtual 193, 3), (7, .aload_n 0, 1), (8, .iload_n 2, 1), (9, .iload_n 3, 1), (10, .invokevirtual 142, 3), (13, .i2d, 1), (14, .dsub, 1), (15, .dstore 4, 2), (17, .dload 4, 2), (19, .dconst 0, 1), (20, .dcmp .g, 1), (21, .ifCond .ge 9, 3), (24, .dload 4, 2), (26, .dneg, 1), (27, .goto 5, 3), (30, .dload 4, 2), (32, .dreturn, 1)] := by decide +kernel
theorem dX7_error_0 : decode cX7_error 0 = .ok (.aload_n 0, 1) := fo_dd DX7_error_0 0 rfl
theorem dX7_error_1 : decode cX7_error 1 = .ok (.iload_n 1, 1) := fo_dd DX7_error_0 1 rfl
theorem dX7_error_2 : decode cX7_error 2 = .ok (.iload_n 2, 1) := fo_dd DX7_error_0 2 rfl
theorem dX7_error_3 : decode cX7_error 3 = .ok (.iload_n 3, 1) := fo_dd DX7_error_0 3 rfl
theorem dX7_error_4 : decode cX7_error 4 = .ok (.invokevirtual 193, 3) := fo_dd DX7_error_0 4 rfl
theorem dX7_error_7 : decode cX7_error 7 = .ok (.aload_n 0, 1) := fo_dd DX7_error_0 5 rfl
theorem dX7_error_8 : decode cX7_error 8 = .ok (.iload_n 2, 1) := fo_dd DX7_error_0 6 rfl
theorem dX7_error_9 : decode cX7_error 9 = .ok (.iload_n 3, 1) := fo_dd DX7_error_0 7 rfl
theorem dX7_error_10 : decode cX7_error 10 = .ok (.invokevirtual 142, 3) := fo_dd DX7_error_0 8 rfl
theorem dX7_error_13 : decode cX7_error 13 = .ok (.i2d, 1) := fo_dd DX7_error_0 9 rfl
theorem dX7_error_14 : decode cX7_error 14 = .ok (.dsub, 1) := fo_dd DX7_error_0 10 rfl
theorem dX7_error_15 : decode cX7_error 15 = .ok (.dstore 4, 2) := fo_dd DX7_error_0 11 rfl
theorem dX7_error_17 : decode cX7_error 17 = .ok (.dload 4, 2) := fo_dd DX7_error_0 12 rfl
theorem dX7_error_19 : decode cX7_error 19 = .ok (.dconst 0, 1) := fo_dd DX7_error_0 13 rfl
theorem dX7_error_20 : decode cX7_error 20 = .ok (.dcmp .g, 1) := fo_dd DX7_error_0 14 rfl
theorem dX7_error_21 : decode cX7_error 21 = .ok (.ifCond .ge 9, 3) := fo_dd DX7_error_0 15 rfl
theorem dX7_error_24 : decode cX7_error 24 = .ok (.dload 4, 2) := fo_dd DX7_error_0 16 rfl
theorem dX7_error_26 : decode cX7_error 26 = .ok (.dneg, 1) := fo_dd DX7_error_0 17 rfl
theorem dX7_error_27 : decode cX7_error 27 = .ok (.goto 5, 3) := fo_dd DX7_error_0 18 rfl
theorem dX7_error_30 : decode cX7_error 30 = .ok (.dload 4, 2) := fo_dd DX7_error_0 19 rfl
theorem dX7_error_32 : decode cX7_error 32 = .ok (.dreturn, 1) := fo_dd DX7_error_0 20 rfl
theorem DX7_errorsOf_0 : fo_dl cX7_errorsOf [(0, .iconst 0, 1), (1, .istore_n 3, 1), (2, .iconst 0, 1), (3, .istore 4, 2), (5, .iload 4, 2), (7, .aload_n 0, 1), (8, .iload_n 2, 1), (9, .invokevirtual 92, 3), (12, .if_icmp .ge 27, 3), (15, .iload_n 3, 1), (16, .aload_n 0, 1), (17, .iload_n 1, 1), (18, .iload 4, 2), (20, .invokevirtual 190, 3), (23, .ifCond .eq 7, 3), (26, .iconst 1, 1), (27, .goto 4, 3), (30, .iconst 0, 1), (31, .iadd, 1), (32, .istore_n 3, 1), (33, .iinc 4 1, 3), (36, .goto (-31), 3), (39, .iload_n 3, 1), (40, .ireturn, 1)] := by decide +kernel
theorem dX7_errorsOf_0 : decode cX7_errorsOf 0 = .ok (.iconst 0, 1) := fo_dd DX7_errorsOf_0 0 rfl
theorem dX7_errorsOf_1 : decode cX7_errorsOf 1 = .ok (.istore_n 3, 1) := fo_dd DX7_errorsOf_0 1 rfl
theorem dX7_errorsOf_2 : decode cX7_errorsOf 2 = .ok (.iconst 0, 1) := fo_dd DX7_errorsOf_0 2 rfl
theorem dX7_errorsOf_3 : decode cX7_errorsOf 3 = .ok (.istore 4, 2) := fo_dd DX7_errorsOf_0 3 rfl
theorem dX7_errorsOf_5 : decode cX7_errorsOf 5 = .ok (.iload 4, 2) := fo_dd DX7_errorsOf_0 4 rfl
theorem dX7_errorsOf_7 : decode cX7_errorsOf 7 = .ok (.aload_n 0, 1) := fo_dd DX7_errorsOf_0 5 rfl
theorem dX7_errorsOf_8 : decode cX7_errorsOf 8 = .ok (.iload_n 2, 1) := fo_dd DX7_errorsOf_0 6 rfl
theorem dX7_errorsOf_9 : decode cX7_errorsOf 9 = .ok (.invokevirtual 92, 3) := fo_dd DX7_errorsOf_0 7 rfl
theorem dX7_errorsOf_12 : decode cX7_errorsOf 12 = .ok (.if_icmp .ge 27, 3) := fo_dd DX7_errorsOf_0 8 rfl
theorem dX7_errorsOf_15 : decode cX7_errorsOf 15 = .ok (.iload_n 3, 1) := fo_dd DX7_errorsOf_0 9 rfl
theorem dX7_errorsOf_16 : decode cX7_errorsOf 16 = .ok (.aload_n 0, 1) := fo_dd DX7_errorsOf_0 10 rfl
theorem dX7_errorsOf_17 : decode cX7_errorsOf 17 = .ok (.iload_n 1, 1) := fo_dd DX7_errorsOf_0 11 rfl
theorem dX7_errorsOf_18 : decode cX7_errorsOf 18 = .ok (.iload 4, 2) := fo_dd DX7_errorsOf_0 12 rfl
theorem dX7_errorsOf_20 : decode cX7_errorsOf 20 = .ok (.invokevirtual 190, 3) := fo_dd DX7_errorsOf_0 13 rfl
theorem dX7_errorsOf_23 : decode cX7_errorsOf 23 = .ok (.ifCond .eq 7, 3) := fo_dd DX7_errorsOf_0 14 rfl
theorem dX7_errorsOf_26 : decode cX7_errorsOf 26 = .ok (.iconst 1, 1) := fo_dd DX7_errorsOf_0 15 rfl
theorem dX7_errorsOf_27 : decode cX7_errorsOf 27 = .ok (.goto 4, 3) := fo_dd DX7_errorsOf_0 16 rfl
theorem dX7_errorsOf_30 : decode cX7_errorsOf 30 = .ok (.iconst 0, 1) := fo_dd DX7_errorsOf_0 17 rfl
theorem dX7_errorsOf_31 : decode cX7_errorsOf 31 = .ok (.iadd, 1) := fo_dd DX7_errorsOf_0 18 rfl
theorem dX7_errorsOf_32 : decode cX7_errorsOf 32 = .ok (.istore_n 3, 1) := fo_dd DX7_errorsOf_0 19 rfl
theorem dX7_errorsOf_33 : decode cX7_errorsOf 33 = .ok (.iinc 4 1, 3) := fo_dd DX7_errorsOf_0 20 rfl
theorem dX7_errorsOf_36 : decode cX7_errorsOf 36 = .ok (.goto (-31), 3) := fo_dd DX7_errorsOf_0 21 rfl
theorem dX7_errorsOf_39 : decode cX7_errorsOf 39 = .ok (.iload_n 3, 1) := fo_dd DX7_errorsOf_0 22 rfl
theorem dX7_errorsOf_40 : decode cX7_errorsOf 40 = .ok (.ireturn, 1) := fo_dd DX7_errorsOf_0 23 rfl
theorem DX7_errors_0 : fo_dl cX7_errors [(0, .aload_n 0, 1), (1, .iload_n 1, 1), (2, .iload_n 2, 1), (3, .invokevirtual 187, 3), (6, .ifCond .eq 12, 3), (9, .aload_n 0, 1), (10, .iload_n 1, 1), (11, .iload_n 2, 1), (12, .invokevirtual 205, 3), (15, .goto 4, 3), (18, .iconst 0, 1), (19, .ireturn, 1)] := by decide +kernel
theorem dX7_errors_0 : decode cX7_errors 0 = .ok (.aload_n 0, 1) := fo_dd DX7_errors_0 0 rfl
theorem dX7_errors_1 : decode cX7_errors 1 = .ok (.iload_n 1, 1) := fo_dd DX7_errors_0 1 rfl
theorem dX7_errors_2 : decode cX7_errors 2 = .ok (.iload_n 2, 1) := fo_dd DX7_errors_0 2 rfl
theorem dX7_errors_3 : decode cX7_errors 3 = .ok (.invokevirtual 187, 3) := fo_dd DX7_errors_0 3 rfl
theorem dX7_errors_6 : decode cX7_errors 6 = .ok (.ifCond .eq 12, 3) := fo_dd DX7_errors_0 4 rfl
theorem dX7_errors_9 : decode cX7_errors 9 = .ok (.aload_n 0, 1) := fo_dd DX7_errors_0 5 rfl
theorem dX7_errors_10 : decode cX7_errors 10 = .ok (.iload_n 1, 1) := fo_dd DX7_errors_0 6 rfl
theorem dX7_errors_11 : decode cX7_errors 11 = .ok (.iload_n 2, 1) := fo_dd DX7_errors_0 7 rfl
theorem dX7_errors_12 : decode cX7_errors 12 = .ok (.invokevirtual 205, 3) := fo_dd DX7_errors_0 8 rfl
theorem dX7_errors_15 : decode cX7_errors 15 = .ok (.goto 4, 3) := fo_dd DX7_errors_0 9 rfl
theorem dX7_errors_18 : decode cX7_errors 18 = .ok (.iconst 0, 1) := fo_dd DX7_errors_0 10 rfl
theorem dX7_errors_19 : decode cX7_errors 19 = .ok (.ireturn, 1) := fo_dd DX7_errors_0 11 rfl
theorem DX7_errorSumOf_0 : fo_dl cX7_errorSumOf [(0, .dconst 0, 1), (1, .dstore_n 3, 1), (2, .iconst 0, 1), (3, .istore 5, 2), (5, .iload 5, 2), (7, .aload_n 0, 1), (8, .iload_n 2, 1), (9, .invokevirtual 92, 3), (12, .if_icmp .ge 30, 3), (15, .aload_n 0, 1), (16, .iload_n 1, 1), (17, .iload 5, 2), (19, .invokevirtual 190, 3), (22, .ifCond .eq 14, 3), (25, .dload_n 3, 1), (26, .aload_n 0, 1), (27, .iload_n 1, 1), (28, .iload_n 2, 1), (29, .iload 5, 2), (31, .invokevirtual 208, 3), (34, .dadd, 1), (35, .dstore_n 3, 1), (36, .iinc 5 1, 3), (39, .goto (-34), 3), (42, .dload_n 3, 1), (43, .dreturn, 1)] := by decide +kernel
theorem dX7_errorSumOf_0 : decode cX7_errorSumOf 0 = .ok (.dconst 0, 1) := fo_dd DX7_errorSumOf_0 0 rfl
theorem dX7_errorSumOf_1 : decode cX7_errorSumOf 1 = .ok (.dstore_n 3, 1) := fo_dd DX7_errorSumOf_0 1 rfl
theorem dX7_errorSumOf_2 : decode cX7_errorSumOf 2 = .ok (.iconst 0, 1) := fo_dd DX7_errorSumOf_0 2 rfl
theorem dX7_errorSumOf_3 : decode cX7_errorSumOf 3 = .ok (.istore 5, 2) := fo_dd DX7_errorSumOf_0 3 rfl
theorem dX7_errorSumOf_5 : decode cX7_errorSumOf 5 = .ok (.iload 5, 2) := fo_dd DX7_errorSumOf_0 4 rfl
theorem dX7_errorSumOf_7 : decode cX7_errorSumOf 7 = .ok (.aload_n 0, 1) := fo_dd DX7_errorSumOf_0 5 rfl
theorem dX7_errorSumOf_8 : decode cX7_errorSumOf 8 = .ok (.iload_n 2, 1) := fo_dd DX7_errorSumOf_0 6 rfl
theorem dX7_errorSumOf_9 : decode cX7_errorSumOf 9 = .ok (.invokevirtual 92, 3) := fo_dd DX7_errorSumOf_0 7 rfl
theorem dX7_errorSumOf_12 : decode cX7_errorSumOf 12 = .ok (.if_icmp .ge 30, 3) := fo_dd DX7_errorSumOf_0 8 rfl
theorem dX7_errorSumOf_15 : decode cX7_errorSumOf 15 = .ok (.aload_n 0, 1) := fo_dd DX7_errorSumOf_0 9 rfl
theorem dX7_errorSumOf_16 : decode cX7_errorSumOf 16 = .ok (.iload_n 1, 1) := fo_dd DX7_errorSumOf_0 10 rfl
theorem dX7_errorSumOf_17 : decode cX7_errorSumOf 17 = .ok (.iload 5, 2) := fo_dd DX7_errorSumOf_0 11 rfl
theorem dX7_errorSumOf_19 : decode cX7_errorSumOf 19 = .ok (.invokevirtual 190, 3) := fo_dd DX7_errorSumOf_0 12 rfl
theorem dX7_errorSumOf_22 : decode cX7_errorSumOf 22 = .ok (.ifCond .eq 14, 3) := fo_dd DX7_errorSumOf_0 13 rfl
theorem dX7_errorSumOf_25 : decode cX7_errorSumOf 25 = .ok (.dload_n 3, 1) := fo_dd DX7_errorSumOf_0 14 rfl
theorem dX7_errorSumOf_26 : decode cX7_errorSumOf 26 = .ok (.aload_n 0, 1) := fo_dd DX7_errorSumOf_0 15 rfl
theorem dX7_errorSumOf_27 : decode cX7_errorSumOf 27 = .ok (.iload_n 1, 1) := fo_dd DX7_errorSumOf_0 16 rfl
theorem dX7_errorSumOf_28 : decode cX7_errorSumOf 28 = .ok (.iload_n 2, 1) := fo_dd DX7_errorSumOf_0 17 rfl
theorem dX7_errorSumOf_29 : decode cX7_errorSumOf 29 = .ok (.iload 5, 2) := fo_dd DX7_errorSumOf_0 18 rfl
theorem dX7_errorSumOf_31 : decode cX7_errorSumOf 31 = .ok (.invokevirtual 208, 3) := fo_dd DX7_errorSumOf_0 19 rfl
theorem dX7_errorSumOf_34 : decode cX7_errorSumOf 34 = .ok (.dadd, 1) := fo_dd DX7_errorSumOf_0 20 rfl
theorem dX7_errorSumOf_35 : decode cX7_errorSumOf 35 = .ok (.dstore_n 3, 1) := fo_dd DX7_errorSumOf_0 21 rfl
theorem dX7_errorSumOf_36 : decode cX7_errorSumOf 36 = .ok (.iinc 5 1, 3) := fo_dd DX7_errorSumOf_0 22 rfl
theorem dX7_errorSumOf_39 : decode cX7_errorSumOf 39 = .ok (.goto (-34), 3) := fo_dd DX7_errorSumOf_0 23 rfl
theorem dX7_errorSumOf_42 : decode cX7_errorSumOf 42 = .ok (.dload_n 3, 1) := fo_dd DX7_errorSumOf_0 24 rfl
theorem dX7_errorSumOf_43 : decode cX7_errorSumOf 43 = .ok (.dreturn, 1) := fo_dd DX7_errorSumOf_0 25 rfl
theorem DX7_errorSum_0 : fo_dl cX7_errorSum [(0, .aload_n 0, 1), (1, .iload_n 1, 1), (2, .iload_n 2, 1), (3, .invokevirtual 187, 3), (6, .ifCond .eq 12, 3), (9, .aload_n 0, 1), (10, .iload_n 1, 1), (11, .iload_n 2, 1), (12, .invokevirtual 211, 3), (15, .goto 4, 3), (18, .dconst 0, 1), (19, .dreturn, 1)] := by decide +kernel
theorem dX7_errorSum_0 : decode cX7_errorSum 0 = .ok (.aload_n 0, 1) := fo_dd DX7_errorSum_0 0 rfl
theorem dX7_errorSum_1 : decode cX7_errorSum 1 = .ok (.iload_n 1, 1) := fo_dd DX7_errorSum_0 1 rfl
theorem dX7_errorSum_2 : decode cX7_errorSum 2 = .ok (.iload_n 2, 1) := fo_dd DX7_errorSum_0 2 rfl
theorem dX7_errorSum_3 : decode cX7_errorSum 3 = .ok (.invokevirtual 187, 3) := fo_dd DX7_errorSum_0 3 rfl
theorem dX7_errorSum_6 : decode cX7_errorSum 6 = .ok (.ifCond .eq 12, 3) := fo_dd DX7_errorSum_0 4 rfl
theorem dX7_errorSum_9 : decode cX7_errorSum 9 = .ok (.aload_n 0, 1) := fo_dd DX7_errorSum_0 5 rfl
theorem dX7_errorSum_10 : decode cX7_errorSum 10 = .ok (.iload_n 1, 1) := fo_dd DX7_errorSum_0 6 rfl
theorem dX7_errorSum_11 : decode cX7_errorSum 11 = .ok (.iload_n 2, 1) := fo_dd DX7_errorSum_0 7 rfl
theorem dX7_errorSum_12 : decode cX7_errorSum 12 = .ok (.invokevirtual 211, 3) := fo_dd DX7_errorSum_0 8 rfl
theorem dX7_errorSum_15 : decode cX7_errorSum 15 = .ok (.goto 4, 3) := fo_dd DX7_errorSum_0 9 rfl
theorem dX7_errorSum_18 : decode cX7_errorSum 18 = .ok (.dconst 0, 1) := fo_dd DX7_errorSum_0 10 rfl
theorem dX7_errorSum_19 : decode cX7_errorSum 19 = .ok (.dreturn, 1) := fo_dd DX7_errorSum_0 11 rfl
theorem DX7_errorSumByBacktest_0 : fo_dl cX7_errorSumByBacktest [(0, .aload_n 0, 1), (1, .iload_n 1, 1), (2, .iload_n 2, 1), (3, .invokevirtual 187, 3), (6, .ifCond .eq 12, 3), (9, .aload_n 0, 1), (10, .iload_n 1, 1), (11, .iload_n 2, 1), (12, .invokevirtual 211, 3), (15, .goto 4, 3), (18, .dconst 0, 1), (19, .dreturn, 1)] := by decide +kernel
theorem dX7_errorSumByBacktest_0 : decode cX7_errorSumByBacktest 0 = .ok (.aload_n 0, 1) := fo_dd DX7_errorSumByBacktest_0 0 rfl
theorem dX7_errorSumByBacktest_1 : decode cX7_errorSumByBacktest 1 = .ok (.iload_n 1, 1) := fo_dd DX7_errorSumByBacktest_0 1 rfl
theorem dX7_errorSumByBacktest_2 : decode cX7_errorSumByBacktest 2 = .ok (.iload_n 2, 1) := fo_dd DX7_errorSumByBacktest_0 2 rfl
theorem dX7_errorSumByBacktest_3 : decode cX7_errorSumByBacktest 3 = .ok (.invokevirtual 187, 3) := fo_dd DX7_errorSumByBacktest_0 3 rfl
theorem dX7_errorSumByBacktest_6 : decode cX7_errorSumByBacktest 6 = .ok (.ifCond .eq 12, 3) := fo_dd DX7_errorSumByBacktest_0 4 rfl
theorem dX7_errorSumByBacktest_9 : decode cX7_errorSumByBacktest 9 = .ok (.aload_n 0, 1) := fo_dd DX7_errorSumByBacktest_0 5 rfl
theorem dX7_errorSumByBacktest_10 : decode cX7_errorSumByBacktest 10 = .ok (.iload_n 1, 1) := fo_dd DX7_errorSumByBacktest_0 6 rfl
theorem dX7_errorSumByBacktest_11 : decode cX7_errorSumByBacktest 11 = .ok (.iload_n 2, 1) := fo_dd DX7_errorSumByBacktest_0 7 rfl
theorem dX7_errorSumByBacktest_12 : decode cX7_errorSumByBacktest 12 = .ok (.invokevirtual 211, 3) := fo_dd DX7_errorSumByBacktest_0 8 rfl
theorem dX7_errorSumByBacktest_15 : decode cX7_errorSumByBacktest 15 = .ok (.goto 4, 3) := fo_dd DX7_errorSumByBacktest_0 9 rfl
theorem dX7_errorSumByBacktest_18 : decode cX7_errorSumByBacktest 18 = .ok (.dconst 0, 1) := fo_dd DX7_errorSumByBacktest_0 10 rfl
theorem dX7_errorSumByBacktest_19 : decode cX7_errorSumByBacktest 19 = .ok (.dreturn, 1) := fo_dd DX7_errorSumByBacktest_0 11 rfl
theorem DX7_winner_0 : fo_dl cX7_winner [(0, .iconst (-1), 1), (1, .istore_n 3, 1), (2, .iconst 0, 1), (3, .istore 4, 2), (5, .iload 4, 2), (7, .aload_n 0, 1), (8, .getfield 7, 3), (11, .iconst 0, 1), (12, .iaload, 1), (13, .if_icmp .ge 48, 3), (16, .aload_n 0, 1), (17, .iload 4, 2), (19, .iload_n 2, 1), (20, .invokevirtual 190, 3), (23, .ifCond .ne 6, 3), (26, .goto 29, 3), (29, .iload_n 3, 1), (30, .ifCond .lt 22, 3), (33, .aload_n 0, 1), (34, .iload 4, 2), (36, .iload_n 1, 1), (37, .iload_n 2, 1), (38, .invokevirtual 208, 3), (41, .aload_n 0, 1), (42, .iload_n 3, 1), (43, .iload_n 1, 1), (44, .iload_n 2, 1), (45, .invokevirtual 208, 3), (48, .dcmp .g, 1), (49, .ifCond .ge 6, 3), (52, .iload 4, 2), (54, .istore_n 3, 1), (55, .iinc 4 1, 3), (58, .goto (-53), 3), (61, .iload_n 3, 1), (62, .ireturn, 1)] := by decide +kernel
theorem dX7_winner_0 : decode cX7_winner 0 = .ok (.iconst (-1), 1) := fo_dd DX7_winner_0 0 rfl
theorem dX7_winner_1 : decode cX7_winner 1 = .ok (.istore_n 3, 1) := fo_dd DX7_winner_0 1 rfl
theorem dX7_winner_2 : decode cX7_winner 2 = .ok (.iconst 0, 1) := fo_dd DX7_winner_0 2 rfl
theorem dX7_winner_3 : decode cX7_winner 3 = .ok (.istore 4, 2) := fo_dd DX7_winner_0 3 rfl
theorem dX7_winner_5 : decode cX7_winner 5 = .ok (.iload 4, 2) := fo_dd DX7_winner_0 4 rfl
theorem dX7_winner_7 : decode cX7_winner 7 = .ok (.aload_n 0, 1) := fo_dd DX7_winner_0 5 rfl
theorem dX7_winner_8 : decode cX7_winner 8 = .ok (.getfield 7, 3) := fo_dd DX7_winner_0 6 rfl
theorem dX7_winner_11 : decode cX7_winner 11 = .ok (.iconst 0, 1) := fo_dd DX7_winner_0 7 rfl
theorem dX7_winner_12 : decode cX7_winner 12 = .ok (.iaload, 1) := fo_dd DX7_winner_0 8 rfl
theorem dX7_winner_13 : decode cX7_winner 13 = .ok (.if_icmp .ge 48, 3) := fo_dd DX7_winner_0 9 rfl
theorem dX7_winner_16 : decode cX7_winner 16 = .ok (.aload_n 0, 1) := fo_dd DX7_winner_0 10 rfl
theorem dX7_winner_17 : decode cX7_winner 17 = .ok (.iload 4, 2) := fo_dd DX7_winner_0 11 rfl
theorem dX7_winner_19 : decode cX7_winner 19 = .ok (.iload_n 2, 1) := fo_dd DX7_winner_0 12 rfl
theorem dX7_winner_20 : decode cX7_winner 20 = .ok (.invokevirtual 190, 3) := fo_dd DX7_winner_0 13 rfl
theorem dX7_winner_23 : decode cX7_winner 23 = .ok (.ifCond .ne 6, 3) := fo_dd DX7_winner_0 14 rfl
theorem dX7_winner_26 : decode cX7_winner 26 = .ok (.goto 29, 3) := fo_dd DX7_winner_0 15 rfl
theorem dX7_winner_29 : decode cX7_winner 29 = .ok (.iload_n 3, 1) := fo_dd DX7_winner_0 16 rfl
theorem dX7_winner_30 : decode cX7_winner 30 = .ok (.ifCond .lt 22, 3) := fo_dd DX7_winner_0 17 rfl
theorem dX7_winner_33 : decode cX7_winner 33 = .ok (.aload_n 0, 1) := fo_dd DX7_winner_0 18 rfl
theorem dX7_winner_34 : decode cX7_winner 34 = .ok (.iload 4, 2) := fo_dd DX7_winner_0 19 rfl
theorem dX7_winner_36 : decode cX7_winner 36 = .ok (.iload_n 1, 1) := fo_dd DX7_winner_0 20 rfl
theorem dX7_winner_37 : decode cX7_winner 37 = .ok (.iload_n 2, 1) := fo_dd DX7_winner_0 21 rfl
theorem dX7_winner_38 : decode cX7_winner 38 = .ok (.invokevirtual 208, 3) := fo_dd DX7_winner_0 22 rfl
theorem dX7_winner_41 : decode cX7_winner 41 = .ok (.aload_n 0, 1) := fo_dd DX7_winner_0 23 rfl
theorem dX7_winner_42 : decode cX7_winner 42 = .ok (.iload_n 3, 1) := fo_dd DX7_winner_0 24 rfl
theorem dX7_winner_43 : decode cX7_winner 43 = .ok (.iload_n 1, 1) := fo_dd DX7_winner_0 25 rfl
theorem dX7_winner_44 : decode cX7_winner 44 = .ok (.iload_n 2, 1) := fo_dd DX7_winner_0 26 rfl
theorem dX7_winner_45 : decode cX7_winner 45 = .ok (.invokevirtual 208, 3) := fo_dd DX7_winner_0 27 rfl
theorem dX7_winner_48 : decode cX7_winner 48 = .ok (.dcmp .g, 1) := fo_dd DX7_winner_0 28 rfl
theorem dX7_winner_49 : decode cX7_winner 49 = .ok (.ifCond .ge 6, 3) := fo_dd DX7_winner_0 29 rfl
theorem dX7_winner_52 : decode cX7_winner 52 = .ok (.iload 4, 2) := fo_dd DX7_winner_0 30 rfl
theorem dX7_winner_54 : decode cX7_winner 54 = .ok (.istore_n 3, 1) := fo_dd DX7_winner_0 31 rfl
theorem dX7_winner_55 : decode cX7_winner 55 = .ok (.iinc 4 1, 3) := fo_dd DX7_winner_0 32 rfl
theorem dX7_winner_58 : decode cX7_winner 58 = .ok (.goto (-53), 3) := fo_dd DX7_winner_0 33 rfl
theorem dX7_winner_61 : decode cX7_winner 61 = .ok (.iload_n 3, 1) := fo_dd DX7_winner_0 34 rfl
theorem dX7_winner_62 : decode cX7_winner 62 = .ok (.ireturn, 1) := fo_dd DX7_winner_0 35 rfl
theorem DX7_pointsOf_0 : fo_dl cX7_pointsOf [(0, .iconst 0, 1), (1, .istore_n 3, 1), (2, .iconst 0, 1), (3, .istore 4, 2), (5, .iload 4, 2), (7, .aload_n 0, 1), (8, .iload_n 2, 1), (9, .invokevirtual 92, 3), (12, .if_icmp .ge 28, 3), (15, .iload_n 3, 1), (16, .aload_n 0, 1), (17, .iload_n 2, 1), (18, .iload 4, 2), (20, .invokevirtual 214, 3), (23, .iload_n 1, 1), (24, .if_icmp .ne 7, 3), (27, .iconst 1, 1), (28, .goto 4, 3), (31, .iconst 0, 1), (32, .iadd, 1), (33, .istore_n 3, 1), (34, .iinc 4 1, 3), (37, .goto (-32), 3), (40, .iload_n 3, 1), (41, .ireturn, 1)] := by decide +kernel
theorem dX7_pointsOf_0 : decode cX7_pointsOf 0 = .ok (.iconst 0, 1) := fo_dd DX7_pointsOf_0 0 rfl
theorem dX7_pointsOf_1 : decode cX7_pointsOf 1 = .ok (.istore_n 3, 1) := fo_dd DX7_pointsOf_0 1 rfl
theorem dX7_pointsOf_2 : decode cX7_pointsOf 2 = .ok (.iconst 0, 1) := fo_dd DX7_pointsOf_0 2 rfl
theorem dX7_pointsOf_3 : decode cX7_pointsOf 3 = .ok (.istore 4, 2) := fo_dd DX7_pointsOf_0 3 rfl
theorem dX7_pointsOf_5 : decode cX7_pointsOf 5 = .ok (.iload 4, 2) := fo_dd DX7_pointsOf_0 4 rfl
theorem dX7_pointsOf_7 : decode cX7_pointsOf 7 = .ok (.aload_n 0, 1) := fo_dd DX7_pointsOf_0 5 rfl
theorem dX7_pointsOf_8 : decode cX7_pointsOf 8 = .ok (.iload_n 2, 1) := fo_dd DX7_pointsOf_0 6 rfl
theorem dX7_pointsOf_9 : decode cX7_pointsOf 9 = .ok (.invokevirtual 92, 3) := fo_dd DX7_pointsOf_0 7 rfl
theorem dX7_pointsOf_12 : decode cX7_pointsOf 12 = .ok (.if_icmp .ge 28, 3) := fo_dd DX7_pointsOf_0 8 rfl
theorem dX7_pointsOf_15 : decode cX7_pointsOf 15 = .ok (.iload_n 3, 1) := fo_dd DX7_pointsOf_0 9 rfl
theorem dX7_pointsOf_16 : decode cX7_pointsOf 16 = .ok (.aload_n 0, 1) := fo_dd DX7_pointsOf_0 10 rfl
theorem dX7_pointsOf_17 : decode cX7_pointsOf 17 = .ok (.iload_n 2, 1) := fo_dd DX7_pointsOf_0 11 rfl
theorem dX7_pointsOf_18 : decode cX7_pointsOf 18 = .ok (.iload 4, 2) := fo_dd DX7_pointsOf_0 12 rfl
theorem dX7_pointsOf_20 : decode cX7_pointsOf 20 = .ok (.invokevirtual 214, 3) := fo_dd DX7_pointsOf_0 13 rfl
theorem dX7_pointsOf_23 : decode cX7_pointsOf 23 = .ok (.iload_n 1, 1) := fo_dd DX7_pointsOf_0 14 rfl
theorem dX7_pointsOf_24 : decode cX7_pointsOf 24 = .ok (.if_icmp .ne 7, 3) := fo_dd DX7_pointsOf_0 15 rfl
theorem dX7_pointsOf_27 : decode cX7_pointsOf 27 = .ok (.iconst 1, 1) := fo_dd DX7_pointsOf_0 16 rfl
theorem dX7_pointsOf_28 : decode cX7_pointsOf 28 = .ok (.goto 4, 3) := fo_dd DX7_pointsOf_0 17 rfl
theorem dX7_pointsOf_31 : decode cX7_pointsOf 31 = .ok (.iconst 0, 1) := fo_dd DX7_pointsOf_0 18 rfl
theorem dX7_pointsOf_32 : decode cX7_pointsOf 32 = .ok (.iadd, 1) := fo_dd DX7_pointsOf_0 19 rfl
theorem dX7_pointsOf_33 : decode cX7_pointsOf 33 = .ok (.istore_n 3, 1) := fo_dd DX7_pointsOf_0 20 rfl
theorem dX7_pointsOf_34 : decode cX7_pointsOf 34 = .ok (.iinc 4 1, 3) := fo_dd DX7_pointsOf_0 21 rfl
theorem dX7_pointsOf_37 : decode cX7_pointsOf 37 = .ok (.goto (-32), 3) := fo_dd DX7_pointsOf_0 22 rfl
theorem dX7_pointsOf_40 : decode cX7_pointsOf 40 = .ok (.iload_n 3, 1) := fo_dd DX7_pointsOf_0 23 rfl
theorem dX7_pointsOf_41 : decode cX7_pointsOf 41 = .ok (.ireturn, 1) := fo_dd DX7_pointsOf_0 24 rfl
theorem DX7_points_0 : fo_dl cX7_points [(0, .aload_n 0, 1), (1, .iload_n 1, 1), (2, .iload_n 2, 1), (3, .invokevirtual 187, 3), (6, .ifCond .eq 12, 3), (9, .aload_n 0, 1), (10, .iload_n 1, 1), (11, .iload_n 2, 1), (12, .invokevirtual 217, 3), (15, .goto 4, 3), (18, .iconst 0, 1), (19, .ireturn, 1)] := by decide +kernel
theorem dX7_points_0 : decode cX7_points 0 = .ok (.aload_n 0, 1) := fo_dd DX7_points_0 0 rfl
theorem dX7_points_1 : decode cX7_points 1 = .ok (.iload_n 1, 1) := fo_dd DX7_points_0 1 rfl
theorem dX7_points_2 : decode cX7_points 2 = .ok (.iload_n 2, 1) := fo_dd DX7_points_0 2 rfl
theorem dX7_points_3 : decode cX7_points 3 = .ok (.invokevirtual 187, 3) := fo_dd DX7_points_0 3 rfl
theorem dX7_points_6 : decode cX7_points 6 = .ok (.ifCond .eq 12, 3) := fo_dd DX7_points_0 4 rfl
theorem dX7_points_9 : decode cX7_points 9 = .ok (.aload_n 0, 1) := fo_dd DX7_points_0 5 rfl
theorem dX7_points_10 : decode cX7_points 10 = .ok (.iload_n 1, 1) := fo_dd DX7_points_0 6 rfl
theorem dX7_points_11 : decode cX7_points 11 = .ok (.iload_n 2, 1) := fo_dd DX7_points_0 7 rfl
theorem dX7_points_12 : decode cX7_points 12 = .ok (.invokevirtual 217, 3) := fo_dd DX7_points_0 8 rfl
theorem dX7_points_15 : decode cX7_points 15 = .ok (.goto 4, 3) := fo_dd DX7_points_0 9 rfl
theorem dX7_points_18 : decode cX7_points 18 = .ok (.iconst 0, 1) := fo_dd DX7_points_0 10 rfl
theorem dX7_points_19 : decode cX7_points 19 = .ok (.ireturn, 1) := fo_dd DX7_points_0 11 rfl
theorem DX7_allErrors_0 : fo_dl cX7_allErrors [(0, .aload_n 0, 1), (1, .iload_n 1, 1), (2, .iconst 0, 1), (3, .invokevirtual 205, 3), (6, .aload_n 0, 1), (7, .iload_n 1, 1), (8, .iconst 1, 1), (9, .invokevirtual 205, 3), (12, .iadd, 1), (13, .aload_n 0, 1), (14, .iload_n 1, 1), (15, .iconst 2, 1), (16, .invokevirtual 205, 3), (19, .iadd, 1), (20, .aload_n 0, 1), (21, .iload_n 1, 1), (22, .iconst 3, 1), (23, .invokevirtual 205, 3), (26, .iadd, 1), (27, .ireturn, 1)] := by decide +kernel
theorem dX7_allErrors_0 : decode cX7_allErrors 0 = .ok (.aload_n 0, 1) := fo_dd DX7_allErrors_0 0 rfl
theorem dX7_allErrors_1 : decode cX7_allErrors 1 = .ok (.iload_n 1, 1) := fo_dd DX7_allErrors_0 1 rfl
theorem dX7_allErrors_2 : decode cX7_allErrors 2 = .ok (.iconst 0, 1) := fo_dd DX7_allErrors_0 2 rfl
theorem dX7_allErrors_3 : decode cX7_allErrors 3 = .ok (.invokevirtual 205, 3) := fo_dd DX7_allErrors_0 3 rfl
theorem dX7_allErrors_6 : decode cX7_allErrors 6 = .ok (.aload_n 0, 1) := fo_dd DX7_allErrors_0 4 rfl
theorem dX7_allErrors_7 : decode cX7_allErrors 7 = .ok (.iload_n 1, 1) := fo_dd DX7_allErrors_0 5 rfl
theorem dX7_allErrors_8 : decode cX7_allErrors 8 = .ok (.iconst 1, 1) := fo_dd DX7_allErrors_0 6 rfl
theorem dX7_allErrors_9 : decode cX7_allErrors 9 = .ok (.invokevirtual 205, 3) := fo_dd DX7_allErrors_0 7 rfl
theorem dX7_allErrors_12 : decode cX7_allErrors 12 = .ok (.iadd, 1) := fo_dd DX7_allErrors_0 8 rfl
theorem dX7_allErrors_13 : decode cX7_allErrors 13 = .ok (.aload_n 0, 1) := fo_dd DX7_allErrors_0 9 rfl
theorem dX7_allErrors_14 : decode cX7_allErrors 14 = .ok (.iload_n 1, 1) := fo_dd DX7_allErrors_0 10 rfl
theorem dX7_allErrors_15 : decode cX7_allErrors 15 = .ok (.iconst 2, 1) := fo_dd DX7_allErrors_0 11 rfl
theorem dX7_allErrors_16 : decode cX7_allErrors 16 = .ok (.invokevirtual 205, 3) := fo_dd DX7_allErrors_0 12 rfl
theorem dX7_allErrors_19 : decode cX7_allErrors 19 = .ok (.iadd, 1) := fo_dd DX7_allErrors_0 13 rfl
theorem dX7_allErrors_20 : decode cX7_allErrors 20 = .ok (.aload_n 0, 1) := fo_dd DX7_allErrors_0 14 rfl
theorem dX7_allErrors_21 : decode cX7_allErrors 21 = .ok (.iload_n 1, 1) := fo_dd DX7_allErrors_0 15 rfl
theorem dX7_allErrors_22 : decode cX7_allErrors 22 = .ok (.iconst 3, 1) := fo_dd DX7_allErrors_0 16 rfl
theorem dX7_allErrors_23 : decode cX7_allErrors 23 = .ok (.invokevirtual 205, 3) := fo_dd DX7_allErrors_0 17 rfl
theorem dX7_allErrors_26 : decode cX7_allErrors 26 = .ok (.iadd, 1) := fo_dd DX7_allErrors_0 18 rfl
theorem dX7_allErrors_27 : decode cX7_allErrors 27 = .ok (.ireturn, 1) := fo_dd DX7_allErrors_0 19 rfl
theorem DX7_allPoints_0 : fo_dl cX7_allPoints [(0, .aload_n 0, 1), (1, .iload_n 1, 1), (2, .iconst 0, 1), (3, .invokevirtual 217, 3), (6, .aload_n 0, 1), (7, .iload_n 1, 1), (8, .iconst 1, 1), (9, .invokevirtual 217, 3), (12, .iadd, 1), (13, .aload_n 0, 1), (14, .iload_n 1, 1), (15, .iconst 2, 1), (16, .invokevirtual 217, 3), (19, .iadd, 1), (20, .aload_n 0, 1), (21, .iload_n 1, 1), (22, .iconst 3, 1), (23, .invokevirtual 217, 3), (26, .iadd, 1), (27, .ireturn, 1)] := by decide +kernel
theorem dX7_allPoints_0 : decode cX7_allPoints 0 = .ok (.aload_n 0, 1) := fo_dd DX7_allPoints_0 0 rfl
theorem dX7_allPoints_1 : decode cX7_allPoints 1 = .ok (.iload_n 1, 1) := fo_dd DX7_allPoints_0 1 rfl
theorem dX7_allPoints_2 : decode cX7_allPoints 2 = .ok (.iconst 0, 1) := fo_dd DX7_allPoints_0 2 rfl
theorem dX7_allPoints_3 : decode cX7_allPoints 3 = .ok (.invokevirtual 217, 3) := fo_dd DX7_allPoints_0 3 rfl
theorem dX7_allPoints_6 : decode cX7_allPoints 6 = .ok (.aload_n 0, 1) := fo_dd DX7_allPoints_0 4 rfl
theorem dX7_allPoints_7 : decode cX7_allPoints 7 = .ok (.iload_n 1, 1) := fo_dd DX7_allPoints_0 5 rfl
theorem dX7_allPoints_8 : decode cX7_allPoints 8 = .ok (.iconst 1, 1) := fo_dd DX7_allPoints_0 6 rfl
theorem dX7_allPoints_9 : decode cX7_allPoints 9 = .ok (.invokevirtual 217, 3) := fo_dd DX7_allPoints_0 7 rfl
theorem dX7_allPoints_12 : decode cX7_allPoints 12 = .ok (.iadd, 1) := fo_dd DX7_allPoints_0 8 rfl
theorem dX7_allPoints_13 : decode cX7_allPoints 13 = .ok (.aload_n 0, 1) := fo_dd DX7_allPoints_0 9 rfl
theorem dX7_allPoints_14 : decode cX7_allPoints 14 = .ok (.iload_n 1, 1) := fo_dd DX7_allPoints_0 10 rfl
theorem dX7_allPoints_15 : decode cX7_allPoints 15 = .ok (.iconst 2, 1) := fo_dd DX7_allPoints_0 11 rfl
theorem dX7_allPoints_16 : decode cX7_allPoints 16 = .ok (.invokevirtual 217, 3) := fo_dd DX7_allPoints_0 12 rfl
theorem dX7_allPoints_19 : decode cX7_allPoints 19 = .ok (.iadd, 1) := fo_dd DX7_allPoints_0 13 rfl
theorem dX7_allPoints_20 : decode cX7_allPoints 20 = .ok (.aload_n 0, 1) := fo_dd DX7_allPoints_0 14 rfl
theorem dX7_allPoints_21 : decode cX7_allPoints 21 = .ok (.iload_n 1, 1) := fo_dd DX7_allPoints_0 15 rfl
theorem dX7_allPoints_22 : decode cX7_allPoints 22 = .ok (.iconst 3, 1) := fo_dd DX7_allPoints_0 16 rfl
theorem dX7_allPoints_23 : decode cX7_allPoints 23 = .ok (.invokevirtual 217, 3) := fo_dd DX7_allPoints_0 17 rfl
theorem dX7_allPoints_26 : decode cX7_allPoints 26 = .ok (.iadd, 1) := fo_dd DX7_allPoints_0 18 rfl
theorem dX7_allPoints_27 : decode cX7_allPoints 27 = .ok (.ireturn, 1) := fo_dd DX7_allPoints_0 19 rfl
theorem DX7_meanErrorOf_0 : fo_dl cX7_meanErrorOf [(0, .dconst 0, 1), (1, .dstore_n 2, 1), (2, .iconst 0, 1), (3, .istore 4, 2), (5, .iload 4, 2), (7, .iconst 4, 1), (8, .if_icmp .ge 19, 3), (11, .dload_n 2, 1), (12, .aload_n 0, 1), (13, .iload_n 1, 1), (14, .iload 4, 2), (16, .invokevirtual 211, 3), (19, .dadd, 1), (20, .dstore_n 2, 1), (21, .iinc 4 1, 3), (24, .goto (-19), 3), (27, .dload_n 2, 1), (28, .aload_n 0, 1), (29, .iload_n 1, 1), (30, .invokevirtual 220, 3), (33, .i2d, 1), (34, .ddiv, 1), (35, .dreturn, 1)] := by decide +kernel
theorem dX7_meanErrorOf_0 : decode cX7_meanErrorOf 0 = .ok (.dconst 0, 1) := fo_dd DX7_meanErrorOf_0 0 rfl
theorem dX7_meanErrorOf_1 : decode cX7_meanErrorOf 1 = .ok (.dstore_n 2, 1) := fo_dd DX7_meanErrorOf_0 1 rfl
theorem dX7_meanErrorOf_2 : decode cX7_meanErrorOf 2 = .ok (.iconst 0, 1) := fo_dd DX7_meanErrorOf_0 2 rfl
theorem dX7_meanErrorOf_3 : decode cX7_meanErrorOf 3 = .ok (.istore 4, 2) := fo_dd DX7_meanErrorOf_0 3 rfl
theorem dX7_meanErrorOf_5 : decode cX7_meanErrorOf 5 = .ok (.iload 4, 2) := fo_dd DX7_meanErrorOf_0 4 rfl
theorem dX7_meanErrorOf_7 : decode cX7_meanErrorOf 7 = .ok (.iconst 4, 1) := fo_dd DX7_meanErrorOf_0 5 rfl
theorem dX7_meanErrorOf_8 : decode cX7_meanErrorOf 8 = .ok (.if_icmp .ge 19, 3) := fo_dd DX7_meanErrorOf_0 6 rfl
theorem dX7_meanErrorOf_11 : decode cX7_meanErrorOf 11 = .ok (.dload_n 2, 1) := fo_dd DX7_meanErrorOf_0 7 rfl
theorem dX7_meanErrorOf_12 : decode cX7_meanErrorOf 12 = .ok (.aload_n 0, 1) := fo_dd DX7_meanErrorOf_0 8 rfl
theorem dX7_meanErrorOf_13 : decode cX7_meanErrorOf 13 = .ok (.iload_n 1, 1) := fo_dd DX7_meanErrorOf_0 9 rfl
theorem dX7_meanErrorOf_14 : decode cX7_meanErrorOf 14 = .ok (.iload 4, 2) := fo_dd DX7_meanErrorOf_0 10 rfl
theorem dX7_meanErrorOf_16 : decode cX7_meanErrorOf 16 = .ok (.invokevirtual 211, 3) := fo_dd DX7_meanErrorOf_0 11 rfl
theorem dX7_meanErrorOf_19 : decode cX7_meanErrorOf 19 = .ok (.dadd, 1) := fo_dd DX7_meanErrorOf_0 12 rfl
theorem dX7_meanErrorOf_20 : decode cX7_meanErrorOf 20 = .ok (.dstore_n 2, 1) := fo_dd DX7_meanErrorOf_0 13 rfl
theorem dX7_meanErrorOf_21 : decode cX7_meanErrorOf 21 = .ok (.iinc 4 1, 3) := fo_dd DX7_meanErrorOf_0 14 rfl
theorem dX7_meanErrorOf_24 : decode cX7_meanErrorOf 24 = .ok (.goto (-19), 3) := fo_dd DX7_meanErrorOf_0 15 rfl
theorem dX7_meanErrorOf_27 : decode cX7_meanErrorOf 27 = .ok (.dload_n 2, 1) := fo_dd DX7_meanErrorOf_0 16 rfl
theorem dX7_meanErrorOf_28 : decode cX7_meanErrorOf 28 = .ok (.aload_n 0, 1) := fo_dd DX7_meanErrorOf_0 17 rfl
theorem dX7_meanErrorOf_29 : decode cX7_meanErrorOf 29 = .ok (.iload_n 1, 1) := fo_dd DX7_meanErrorOf_0 18 rfl
theorem dX7_meanErrorOf_30 : decode cX7_meanErrorOf 30 = .ok (.invokevirtual 220, 3) := fo_dd DX7_meanErrorOf_0 19 rfl
theorem dX7_meanErrorOf_33 : decode cX7_meanErrorOf 33 = .ok (.i2d, 1) := fo_dd DX7_meanErrorOf_0 20 rfl
theorem dX7_meanErrorOf_34 : decode cX7_meanErrorOf 34 = .ok (.ddiv, 1) := fo_dd DX7_meanErrorOf_0 21 rfl
theorem dX7_meanErrorOf_35 : decode cX7_meanErrorOf 35 = .ok (.dreturn, 1) := fo_dd DX7_meanErrorOf_0 22 rfl
theorem DX7_meanError_0 : fo_dl cX7_meanError [(0, .aload_n 0, 1), (1, .aload_n 0, 1), (2, .iload_n 1, 1), (3, .invokevirtual 184, 3), (6, .invokevirtual 135, 3), (9, .ifCond .le 5, 3), (12, .dconst 0, 1), (13, .dreturn, 1), (14, .aload_n 0, 1), (15, .aload_n 0, 1), (16, .iload_n 1, 1), (17, .invokevirtual 220, 3), (20, .ifCond .ne 7, 3), (23, .iconst 2, 1), (24, .goto 4, 3), (27, .iconst 0, 1), (28, .putfield 25, 3), (31, .aload_n 0, 1), (32, .getfield 25, 3), (35, .ifCond .le 7, 3), (38, .dconst 0, 1), (39, .goto 8, 3), (42, .aload_n 0, 1), (43, .iload_n 1, 1), (44, .invokevirtual 223, 3), (47, .dreturn, 1)] := by decide +kernel
theorem dX7_meanError_0 : decode cX7_meanError 0 = .ok (.aload_n 0, 1) := fo_dd DX7_meanError_0 0 rfl
theorem dX7_meanError_1 : decode cX7_meanError 1 = .ok (.aload_n 0, 1) := fo_dd DX7_meanError_0 1 rfl
theorem dX7_meanError_2 : decode cX7_meanError 2 = .ok (.iload_n 1, 1) := fo_dd DX7_meanError_0 2 rfl
theorem dX7_meanError_3 : decode cX7_meanError 3 = .ok (.invokevirtual 184, 3) := fo_dd DX7_meanError_0 3 rfl
theorem dX7_meanError_6 : decode cX7_meanError 6 = .ok (.invokevirtual 135, 3) := fo_dd DX7_meanError_0 4 rfl
theorem dX7_meanError_9 : decode cX7_meanError 9 = .ok (.ifCond .le 5, 3) := fo_dd DX7_meanError_0 5 rfl
theorem dX7_meanError_12 : decode cX7_meanError 12 = .ok (.dconst 0, 1) := fo_dd DX7_meanError_0 6 rfl
theorem dX7_meanError_13 : decode cX7_meanError 13 = .ok (.dreturn, 1) := fo_dd DX7_meanError_0 7 rfl
theorem dX7_meanError_14 : decode cX7_meanError 14 = .ok (.aload_n 0, 1) := fo_dd DX7_meanError_0 8 rfl
theorem dX7_meanError_15 : decode cX7_meanError 15 = .ok (.aload_n 0, 1) := fo_dd DX7_meanError_0 9 rfl
theorem dX7_meanError_16 : decode cX7_meanError 16 = .ok (.iload_n 1, 1) := fo_dd DX7_meanError_0 10 rfl
theorem dX7_meanError_17 : decode cX7_meanError 17 = .ok (.invokevirtual 220, 3) := fo_dd DX7_meanError_0 11 rfl
theorem dX7_meanError_20 : decode cX7_meanError 20 = .ok (.ifCond .ne 7, 3) := fo_dd DX7_meanError_0 12 rfl
theorem dX7_meanError_23 : decode cX7_meanError 23 = .ok (.iconst 2, 1) := fo_dd DX7_meanError_0 13 rfl
theorem dX7_meanError_24 : decode cX7_meanError 24 = .ok (.goto 4, 3) := fo_dd DX7_meanError_0 14 rfl
theorem dX7_meanError_27 : decode cX7_meanError 27 = .ok (.iconst 0, 1) := fo_dd DX7_meanError_0 15 rfl
theorem dX7_meanError_28 : decode cX7_meanError 28 = .ok (.putfield 25, 3) := fo_dd DX7_meanError_0 16 rfl
theorem dX7_meanError_31 : decode cX7_meanError 31 = .ok (.aload_n 0, 1) := fo_dd DX7_meanError_0 17 rfl
theorem dX7_meanError_32 : decode cX7_meanError 32 = .ok (.getfield 25, 3) := fo_dd DX7_meanError_0 18 rfl
theorem dX7_meanError_35 : decode cX7_meanError 35 = .ok (.ifCond .le 7, 3) := fo_dd DX7_meanError_0 19 rfl
theorem dX7_meanError_38 : decode cX7_meanError 38 = .ok (.dconst 0, 1) := fo_dd DX7_meanError_0 20 rfl
theorem dX7_meanError_39 : decode cX7_meanError 39 = .ok (.goto 8, 3) := fo_dd DX7_meanError_0 21 rfl
theorem dX7_meanError_42 : decode cX7_meanError 42 = .ok (.aload_n 0, 1) := fo_dd DX7_meanError_0 22 rfl
theorem dX7_meanError_43 : decode cX7_meanError 43 = .ok (.iload_n 1, 1) := fo_dd DX7_meanError_0 23 rfl
theorem dX7_meanError_44 : decode cX7_meanError 44 = .ok (.invokevirtual 223, 3) := fo_dd DX7_meanError_0 24 rfl
theorem dX7_meanError_47 : decode cX7_meanError 47 = .ok (.dreturn, 1) := fo_dd DX7_meanError_0 25 rfl
theorem DX7_prophetByPoints_0 : fo_dl cX7_prophetByPoints [(0, .aload_n 0, 1), (1, .iconst 0, 1), (2, .putfield 25, 3), (5, .iconst 0, 1), (6, .istore_n 2, 1), (7, .iload_n 2, 1), (8, .aload_n 0, 1), (9, .getfield 7, 3), (12, .iconst 0, 1), (13, .iaload, 1), (14, .if_icmp .ge 80, 3), (17, .iconst 0, 1), (18, .istore_n 3, 1), (19, .iconst 0, 1), (20, .istore 4, 2), (22, .iload 4, 2), (24, .aload_n 0, 1), (25, .getfield 7, 3), (28, .iconst 0, 1), (29, .iaload, 1), (30, .if_icmp .ge 51, 3), (33, .iload_n 3, 1), (34, .aload_n 0, 1), (35, .iload 4, 2), (37, .invokevirtual 227, 3), (40, .aload_n 0, 1), (41, .iload_n 2, 1), (42, .invokevirtual 227, 3), (45, .if_icmp .gt 23, 3), (48, .aload_n 0, 1), (49, .iload 4, 2), (51, .invokevirtual 227, 3), (54, .aload_n 0, 1), (55, .iload_n 2, 1), (56, .invokevirtual 227, 3), (59, .if_icmp .ne 13, 3), (62, .iload 4, 2), (64, .iload_n 2, 1), (65, .if_icmp .ge 7, 3), (68, .iconst 1, 1), (69, .goto 4, 3), (72, .iconst 0, 1), (73, .iadd, 1), (74, .istore_n 3, 1), (75, .iinc 4 1, 3), (78, .goto (-56), 3), (81, .iload_n 3, 1), (82, .iload_n 1, 1), (83, .if_icmp .ne 5, 3), (86, .iload_n 2, 1), (87, .ireturn, 1), (88, .iinc 2 1, 3), (91, .goto (-84), 3), (94, .aload_n 0, 1), (95, .iconst 1, 1), (96, .invokevirtual 111, 3), (99, .ireturn, 1)] := by decide +kernel
theorem dX7_prophetByPoints_0 : decode cX7_prophetByPoints 0 = .ok (.aload_n 0, 1) := fo_dd DX7_prophetByPoints_0 0 rfl
theorem dX7_prophetByPoints_1 : decode cX7_prophetByPoints 1 = .ok (.iconst 0, 1) := fo_dd DX7_prophetByPoints_0 1 rfl
theorem dX7_prophetByPoints_2 : decode cX7_prophetByPoints 2 = .ok (.putfield 25, 3) := fo_dd DX7_prophetByPoints_0 2 rfl
theorem dX7_prophetByPoints_5 : decode cX7_prophetByPoints 5 = .ok (.iconst 0, 1) := fo_dd DX7_prophetByPoints_0 3 rfl
theorem dX7_prophetByPoints_6 : decode cX7_prophetByPoints 6 = .ok (.istore_n 2, 1) := fo_dd DX7_prophetByPoints_0 4 rfl
theorem dX7_prophetByPoints_7 : decode cX7_prophetByPoints 7 = .ok (.iload_n 2, 1) := fo_dd DX7_prophetByPoints_0 5 rfl
theorem dX7_prophetByPoints_8 : decode cX7_prophetByPoints 8 = .ok (.aload_n 0, 1) := fo_dd DX7_prophetByPoints_0 6 rfl
theorem dX7_prophetByPoints_9 : decode cX7_prophetByPoints 9 = .ok (.getfield 7, 3) := fo_dd DX7_prophetByPoints_0 7 rfl
theorem dX7_prophetByPoints_12 : decode cX7_prophetByPoints 12 = .ok (.iconst 0, 1) := fo_dd DX7_prophetByPoints_0 8 rfl
theorem dX7_prophetByPoints_13 : decode cX7_prophetByPoints 13 = .ok (.iaload, 1) := fo_dd DX7_prophetByPoints_0 9 rfl
theorem dX7_prophetByPoints_14 : decode cX7_prophetByPoints 14 = .ok (.if_icmp .ge 80, 3) := fo_dd DX7_prophetByPoints_0 10 rfl
theorem dX7_prophetByPoints_17 : decode cX7_prophetByPoints 17 = .ok (.iconst 0, 1) := fo_dd DX7_prophetByPoints_0 11 rfl
theorem dX7_prophetByPoints_18 : decode cX7_prophetByPoints 18 = .ok (.istore_n 3, 1) := fo_dd DX7_prophetByPoints_0 12 rfl
theorem dX7_prophetByPoints_19 : decode cX7_prophetByPoints 19 = .ok (.iconst 0, 1) := fo_dd DX7_prophetByPoints_0 13 rfl
theorem dX7_prophetByPoints_20 : decode cX7_prophetByPoints 20 = .ok (.istore 4, 2) := fo_dd DX7_prophetByPoints_0 14 rfl
theorem dX7_prophetByPoints_22 : decode cX7_prophetByPoints 22 = .ok (.iload 4, 2) := fo_dd DX7_prophetByPoints_0 15 rfl
theorem dX7_prophetByPoints_24 : decode cX7_prophetByPoints 24 = .ok (.aload_n 0, 1) := fo_dd DX7_prophetByPoints_0 16 rfl
theorem dX7_prophetByPoints_25 : decode cX7_prophetByPoints 25 = .ok (.getfield 7, 3) := fo_dd DX7_prophetByPoints_0 17 rfl
theorem dX7_prophetByPoints_28 : decode cX7_prophetByPoints 28 = .ok (.iconst 0, 1) := fo_dd DX7_prophetByPoints_0 18 rfl
theorem dX7_prophetByPoints_29 : decode cX7_prophetByPoints 29 = .ok (.iaload, 1) := fo_dd DX7_prophetByPoints_0 19 rfl
theorem dX7_prophetByPoints_30 : decode cX7_prophetByPoints 30 = .ok (.if_icmp .ge 51, 3) := fo_dd DX7_prophetByPoints_0 20 rfl
theorem dX7_prophetByPoints_33 : decode cX7_prophetByPoints 33 = .ok (.iload_n 3, 1) := fo_dd DX7_prophetByPoints_0 21 rfl
theorem dX7_prophetByPoints_34 : decode cX7_prophetByPoints 34 = .ok (.aload_n 0, 1) := fo_dd DX7_prophetByPoints_0 22 rfl
theorem dX7_prophetByPoints_35 : decode cX7_prophetByPoints 35 = .ok (.iload 4, 2) := fo_dd DX7_prophetByPoints_0 23 rfl
theorem dX7_prophetByPoints_37 : decode cX7_prophetByPoints 37 = .ok (.invokevirtual 227, 3) := fo_dd DX7_prophetByPoints_0 24 rfl
theorem dX7_prophetByPoints_40 : decode cX7_prophetByPoints 40 = .ok (.aload_n 0, 1) := fo_dd DX7_prophetByPoints_0 25 rfl
theorem dX7_prophetByPoints_41 : decode cX7_prophetByPoints 41 = .ok (.iload_n 2, 1) := fo_dd DX7_prophetByPoints_0 26 rfl
theorem dX7_prophetByPoints_42 : decode cX7_prophetByPoints 42 = .ok (.invokevirtual 227, 3) := fo_dd DX7_prophetByPoints_0 27 rfl
theorem dX7_prophetByPoints_45 : decode cX7_prophetByPoints 45 = .ok (.if_icmp .gt 23, 3) := fo_dd DX7_prophetByPoints_0 28 rfl
theorem dX7_prophetByPoints_48 : decode cX7_prophetByPoints 48 = .ok (.aload_n 0, 1) := fo_dd DX7_prophetByPoints_0 29 rfl
theorem dX7_prophetByPoints_49 : decode cX7_prophetByPoints 49 = .ok (.iload 4, 2) := fo_dd DX7_prophetByPoints_0 30 rfl
theorem dX7_prophetByPoints_51 : decode cX7_prophetByPoints 51 = .ok (.invokevirtual 227, 3) := fo_dd DX7_prophetByPoints_0 31 rfl
theorem dX7_prophetByPoints_54 : decode cX7_prophetByPoints 54 = .ok (.aload_n 0, 1) := fo_dd DX7_prophetByPoints_0 32 rfl
theorem dX7_prophetByPoints_55 : decode cX7_prophetByPoints 55 = .ok (.iload_n 2, 1) := fo_dd DX7_prophetByPoints_0 33 rfl
theorem dX7_prophetByPoints_56 : decode cX7_prophetByPoints 56 = .ok (.invokevirtual 227, 3) := fo_dd DX7_prophetByPoints_0 34 rfl
theorem dX7_prophetByPoints_59 : decode cX7_prophetByPoints 59 = .ok (.if_icmp .ne 13, 3) := fo_dd DX7_prophetByPoints_0 35 rfl
theorem dX7_prophetByPoints_62 : decode cX7_prophetByPoints 62 = .ok (.iload 4, 2) := fo_dd DX7_prophetByPoints_0 36 rfl
theorem dX7_prophetByPoints_64 : decode cX7_prophetByPoints 64 = .ok (.iload_n 2, 1) := fo_dd DX7_prophetByPoints_0 37 rfl
theorem dX7_prophetByPoints_65 : decode cX7_prophetByPoints 65 = .ok (.if_icmp .ge 7, 3) := fo_dd DX7_prophetByPoints_0 38 rfl
theorem dX7_prophetByPoints_68 : decode cX7_prophetByPoints 68 = .ok (.iconst 1, 1) := fo_dd DX7_prophetByPoints_0 39 rfl
theorem dX7_prophetByPoints_69 : decode cX7_prophetByPoints 69 = .ok (.goto 4, 3) := fo_dd DX7_prophetByPoints_0 40 rfl
theorem dX7_prophetByPoints_72 : decode cX7_prophetByPoints 72 = .ok (.iconst 0, 1) := fo_dd DX7_prophetByPoints_0 41 rfl
theorem dX7_prophetByPoints_73 : decode cX7_prophetByPoints 73 = .ok (.iadd, 1) := fo_dd DX7_prophetByPoints_0 42 rfl
theorem dX7_prophetByPoints_74 : decode cX7_prophetByPoints 74 = .ok (.istore_n 3, 1) := fo_dd DX7_prophetByPoints_0 43 rfl
theorem dX7_prophetByPoints_75 : decode cX7_prophetByPoints 75 = .ok (.iinc 4 1, 3) := fo_dd DX7_prophetByPoints_0 44 rfl
theorem dX7_prophetByPoints_78 : decode cX7_prophetByPoints 78 = .ok (.goto (-56), 3) := fo_dd DX7_prophetByPoints_0 45 rfl
theorem dX7_prophetByPoints_81 : decode cX7_prophetByPoints 81 = .ok (.iload_n 3, 1) := fo_dd DX7_prophetByPoints_0 46 rfl
theorem dX7_prophetByPoints_82 : decode cX7_prophetByPoints 82 = .ok (.iload_n 1, 1) := fo_dd DX7_prophetByPoints_0 47 rfl
theorem dX7_prophetByPoints_83 : decode cX7_prophetByPoints 83 = .ok (.if_icmp .ne 5, 3) := fo_dd DX7_prophetByPoints_0 48 rfl
theorem dX7_prophetByPoints_86 : decode cX7_prophetByPoints 86 = .ok (.iload_n 2, 1) := fo_dd DX7_prophetByPoints_0 49 rfl
theorem dX7_prophetByPoints_87 : decode cX7_prophetByPoints 87 = .ok (.ireturn, 1) := fo_dd DX7_prophetByPoints_0 50 rfl
theorem dX7_prophetByPoints_88 : decode cX7_prophetByPoints 88 = .ok (.iinc 2 1, 3) := fo_dd DX7_prophetByPoints_0 51 rfl
theorem dX7_prophetByPoints_91 : decode cX7_prophetByPoints 91 = .ok (.goto (-84), 3) := fo_dd DX7_prophetByPoints_0 52 rfl
theorem dX7_prophetByPoints_94 : decode cX7_prophetByPoints 94 = .ok (.aload_n 0, 1) := fo_dd DX7_prophetByPoints_0 53 rfl
theorem dX7_prophetByPoints_95 : decode cX7_prophetByPoints 95 = .ok (.iconst 1, 1) := fo_dd DX7_prophetByPoints_0 54 rfl
theorem dX7_prophetByPoints_96 : decode cX7_prophetByPoints 96 = .ok (.invokevirtual 111, 3) := fo_dd DX7_prophetByPoints_0 55 rfl
theorem dX7_prophetByPoints_99 : decode cX7_prophetByPoints 99 = .ok (.ireturn, 1) := fo_dd DX7_prophetByPoints_0 56 rfl
theorem DX7_bestProphet_0 : fo_dl cX7_bestProphet [(0, .iconst (-1), 1), (1, .istore_n 1, 1), (2, .iconst 0, 1), (3, .istore_n 2, 1), (4, .iload_n 2, 1), (5, .aload_n 0, 1), (6, .getfield 7, 3), (9, .iconst 0, 1), (10, .iaload, 1), (11, .if_icmp .ge 40, 3), (14, .aload_n 0, 1), (15, .iload_n 2, 1), (16, .invokevirtual 220, 3), (19, .ifCond .ne 6, 3), (22, .goto 23, 3), (25, .iload_n 1, 1), (26, .ifCond .lt 17, 3), (29, .aload_n 0, 1), (30, .iload_n 2, 1), (31, .invokevirtual 223, 3), (34, .aload_n 0, 1), (35, .iload_n 1, 1), (36, .invokevirtual 223, 3), (39, .dcmp .g, 1), (40, .ifCond .ge 5, 3), (43, .iload_n 2, 1), (44, .istore_n 1, 1), (45, .iinc 2 1, 3), (48, .goto (-44), 3), (51, .aload_n 0, 1), (52, .iload_n 1, 1), (53, .ifCond .lt 7, 3), (56, .iconst 1, 1), (57, .goto 4, 3), (60, .iconst 0, 1), (61, .invokevirtual 135, 3), (64, .ifCond .le 7, 3), (67, .iconst 0, 1), (68, .goto 4, 3), (71, .iload_n 1, 1), (72, .ireturn, 1)] := by decide +kernel
theorem dX7_bestProphet_0 : decode cX7_bestProphet 0 = .ok (.iconst (-1), 1) := fo_dd DX7_bestProphet_0 0 rfl
theorem dX7_bestProphet_1 : decode cX7_bestProphet 1 = .ok (.istore_n 1, 1) := fo_dd DX7_bestProphet_0 1 rfl
theorem dX7_bestProphet_2 : decode cX7_bestProphet 2 = .ok (.iconst 0, 1) := fo_dd DX7_bestProphet_0 2 rfl
theorem dX7_bestProphet_3 : decode cX7_bestProphet 3 = .ok (.istore_n 2, 1) := fo_dd DX7_bestProphet_0 3 rfl
theorem dX7_bestProphet_4 : decode cX7_bestProphet 4 = .ok (.iload_n 2, 1) := fo_dd DX7_bestProphet_0 4 rfl
theorem dX7_bestProphet_5 : decode cX7_bestProphet 5 = .ok (.aload_n 0, 1) := fo_dd DX7_bestProphet_0 5 rfl
theorem dX7_bestProphet_6 : decode cX7_bestProphet 6 = .ok (.getfield 7, 3) := fo_dd DX7_bestProphet_0 6 rfl
theorem dX7_bestProphet_9 : decode cX7_bestProphet 9 = .ok (.iconst 0, 1) := fo_dd DX7_bestProphet_0 7 rfl
theorem dX7_bestProphet_10 : decode cX7_bestProphet 10 = .ok (.iaload, 1) := fo_dd DX7_bestProphet_0 8 rfl
theorem dX7_bestProphet_11 : decode cX7_bestProphet 11 = .ok (.if_icmp .ge 40, 3) := fo_dd DX7_bestProphet_0 9 rfl
theorem dX7_bestProphet_14 : decode cX7_bestProphet 14 = .ok (.aload_n 0, 1) := fo_dd DX7_bestProphet_0 10 rfl
theorem dX7_bestProphet_15 : decode cX7_bestProphet 15 = .ok (.iload_n 2, 1) := fo_dd DX7_bestProphet_0 11 rfl
theorem dX7_bestProphet_16 : decode cX7_bestProphet 16 = .ok (.invokevirtual 220, 3) := fo_dd DX7_bestProphet_0 12 rfl
theorem dX7_bestProphet_19 : decode cX7_bestProphet 19 = .ok (.ifCond .ne 6, 3) := fo_dd DX7_bestProphet_0 13 rfl
theorem dX7_bestProphet_22 : decode cX7_bestProphet 22 = .ok (.goto 23, 3) := fo_dd DX7_bestProphet_0 14 rfl
theorem dX7_bestProphet_25 : decode cX7_bestProphet 25 = .ok (.iload_n 1, 1) := fo_dd DX7_bestProphet_0 15 rfl
theorem dX7_bestProphet_26 : decode cX7_bestProphet 26 = .ok (.ifCond .lt 17, 3) := fo_dd DX7_bestProphet_0 16 rfl
theorem dX7_bestProphet_29 : decode cX7_bestProphet 29 = .ok (.aload_n 0, 1) := fo_dd DX7_bestProphet_0 17 rfl
theorem dX7_bestProphet_30 : decode cX7_bestProphet 30 = .ok (.iload_n 2, 1) := fo_dd DX7_bestProphet_0 18 rfl
theorem dX7_bestProphet_31 : decode cX7_bestProphet 31 = .ok (.invokevirtual 223, 3) := fo_dd DX7_bestProphet_0 19 rfl
theorem dX7_bestProphet_34 : decode cX7_bestProphet 34 = .ok (.aload_n 0, 1) := fo_dd DX7_bestProphet_0 20 rfl
theorem dX7_bestProphet_35 : decode cX7_bestProphet 35 = .ok (.iload_n 1, 1) := fo_dd DX7_bestProphet_0 21 rfl
theorem dX7_bestProphet_36 : decode cX7_bestProphet 36 = .ok (.invokevirtual 223, 3) := fo_dd DX7_bestProphet_0 22 rfl
theorem dX7_bestProphet_39 : decode cX7_bestProphet 39 = .ok (.dcmp .g, 1) := fo_dd DX7_bestProphet_0 23 rfl
theorem dX7_bestProphet_40 : decode cX7_bestProphet 40 = .ok (.ifCond .ge 5, 3) := fo_dd DX7_bestProphet_0 24 rfl
theorem dX7_bestProphet_43 : decode cX7_bestProphet 43 = .ok (.iload_n 2, 1) := fo_dd DX7_bestProphet_0 25 rfl
theorem dX7_bestProphet_44 : decode cX7_bestProphet 44 = .ok (.istore_n 1, 1) := fo_dd DX7_bestProphet_0 26 rfl
theorem dX7_bestProphet_45 : decode cX7_bestProphet 45 = .ok (.iinc 2 1, 3) := fo_dd DX7_bestProphet_0 27 rfl
theorem dX7_bestProphet_48 : decode cX7_bestProphet 48 = .ok (.goto (-44), 3) := fo_dd DX7_bestProphet_0 28 rfl
theorem dX7_bestProphet_51 : decode cX7_bestProphet 51 = .ok (.aload_n 0, 1) := fo_dd DX7_bestProphet_0 29 rfl
theorem dX7_bestProphet_52 : decode cX7_bestProphet 52 = .ok (.iload_n 1, 1) := fo_dd DX7_bestProphet_0 30 rfl
theorem dX7_bestProphet_53 : decode cX7_bestProphet 53 = .ok (.ifCond .lt 7, 3) := fo_dd DX7_bestProphet_0 31 rfl
theorem dX7_bestProphet_56 : decode cX7_bestProphet 56 = .ok (.iconst 1, 1) := fo_dd DX7_bestProphet_0 32 rfl
theorem dX7_bestProphet_57 : decode cX7_bestProphet 57 = .ok (.goto 4, 3) := fo_dd DX7_bestProphet_0 33 rfl
theorem dX7_bestProphet_60 : decode cX7_bestProphet 60 = .ok (.iconst 0, 1) := fo_dd DX7_bestProphet_0 34 rfl
theorem dX7_bestProphet_61 : decode cX7_bestProphet 61 = .ok (.invokevirtual 135, 3) := fo_dd DX7_bestProphet_0 35 rfl
theorem dX7_bestProphet_64 : decode cX7_bestProphet 64 = .ok (.ifCond .le 7, 3) := fo_dd DX7_bestProphet_0 36 rfl
theorem dX7_bestProphet_67 : decode cX7_bestProphet 67 = .ok (.iconst 0, 1) := fo_dd DX7_bestProphet_0 37 rfl
theorem dX7_bestProphet_68 : decode cX7_bestProphet 68 = .ok (.goto 4, 3) := fo_dd DX7_bestProphet_0 38 rfl
theorem dX7_bestProphet_71 : decode cX7_bestProphet 71 = .ok (.iload_n 1, 1) := fo_dd DX7_bestProphet_0 39 rfl
theorem dX7_bestProphet_72 : decode cX7_bestProphet 72 = .ok (.ireturn, 1) := fo_dd DX7_bestProphet_0 40 rfl
theorem DX7_outlierShare_0 : fo_dl cX7_outlierShare [(0, .aload_n 0, 1), (1, .aload_n 0, 1), (2, .invokevirtual 100, 3), (5, .ifCond .le 7, 3), (8, .iconst 1, 1), (9, .goto 4, 3), (12, .iconst 0, 1), (13, .invokevirtual 135, 3), (16, .ifCond .le 5, 3), (19, .fconst 0, 1), (20, .freturn, 1), (21, .aload_n 0, 1), (22, .iconst 0, 1), (23, .invokevirtual 178, 3), (26, .aload_n 0, 1), (27, .iconst 1, 1), (28, .invokevirtual 178, 3), (31, .iadd, 1), (32, .aload_n 0, 1), (33, .iconst 2, 1), (34, .invokevirtual 178, 3), (37, .iadd, 1), (38, .aload_n 0, 1), (39, .iconst 3, 1), (40, .invokevirtual 178, 3), (43, .iadd, 1), (44, .i2f, 1), (45, .aload_n 0, 1), (46, .invokevirtual 100, 3), (49, .i2f, 1), (50, .fdiv, 1), (51, .freturn, 1)] := by decide +kernel
theorem dX7_outlierShare_0 : decode cX7_outlierShare 0 = .ok (.aload_n 0, 1) := fo_dd DX7_outlierShare_0 0 rfl
theorem dX7_outlierShare_1 : decode cX7_outlierShare 1 = .ok (.aload_n 0, 1) := fo_dd DX7_outlierShare_0 1 rfl
theorem dX7_outlierShare_2 : decode cX7_outlierShare 2 = .ok (.invokevirtual 100, 3) := fo_dd DX7_outlierShare_0 2 rfl
theorem dX7_outlierShare_5 : decode cX7_outlierShare 5 = .ok (.ifCond .le 7, 3) := fo_dd DX7_outlierShare_0 3 rfl
theorem dX7_outlierShare_8 : decode cX7_outlierShare 8 = .ok (.iconst 1, 1) := fo_dd DX7_outlierShare_0 4 rfl
theorem dX7_outlierShare_9 : decode cX7_outlierShare 9 = .ok (.goto 4, 3) := fo_dd DX7_outlierShare_0 5 rfl
theorem dX7_outlierShare_12 : decode cX7_outlierShare 12 = .ok (.iconst 0, 1) := fo_dd DX7_outlierShare_0 6 rfl
theorem dX7_outlierShare_13 : decode cX7_outlierShare 13 = .ok (.invokevirtual 135, 3) := fo_dd DX7_outlierShare_0 7 rfl
theorem dX7_outlierShare_16 : decode cX7_outlierShare 16 = .ok (.ifCond .le 5, 3) := fo_dd DX7_outlierShare_0 8 rfl
theorem dX7_outlierShare_19 : decode cX7_outlierShare 19 = .ok (.fconst 0, 1) := fo_dd DX7_outlierShare_0 9 rfl
theorem dX7_outlierShare_20 : decode cX7_outlierShare 20 = .ok (.freturn, 1) := fo_dd DX7_outlierShare_0 10 rfl
theorem dX7_outlierShare_21 : decode cX7_outlierShare 21 = .ok (.aload_n 0, 1) := fo_dd DX7_outlierShare_0 11 rfl
theorem dX7_outlierShare_22 : decode cX7_outlierShare 22 = .ok (.iconst 0, 1) := fo_dd DX7_outlierShare_0 12 rfl
theorem dX7_outlierShare_23 : decode cX7_outlierShare 23 = .ok (.invokevirtual 178, 3) := fo_dd DX7_outlierShare_0 13 rfl
theorem dX7_outlierShare_26 : decode cX7_outlierShare 26 = .ok (.aload_n 0, 1) := fo_dd DX7_outlierShare_0 14 rfl
theorem dX7_outlierShare_27 : decode cX7_outlierShare 27 = .ok (.iconst 1, 1) := fo_dd DX7_outlierShare_0 15 rfl
theorem dX7_outlierShare_28 : decode cX7_outlierShare 28 = .ok (.invokevirtual 178, 3) := fo_dd DX7_outlierShare_0 16 rfl
theorem dX7_outlierShare_31 : decode cX7_outlierShare 31 = .ok (.iadd, 1) := fo_dd DX7_outlierShare_0 17 rfl
theorem dX7_outlierShare_32 : decode cX7_outlierShare 32 = .ok (.aload_n 0, 1) := fo_dd DX7_outlierShare_0 18 rfl
theorem dX7_outlierShare_33 : decode cX7_outlierShare 33 = .ok (.iconst 2, 1) := fo_dd DX7_outlierShare_0 19 rfl
theorem dX7_outlierShare_34 : decode cX7_outlierShare 34 = .ok (.invokevirtual 178, 3) := fo_dd DX7_outlierShare_0 20 rfl
theorem dX7_outlierShare_37 : decode cX7_outlierShare 37 = .ok (.iadd, 1) := fo_dd DX7_outlierShare_0 21 rfl
theorem dX7_outlierShare_38 : decode cX7_outlierShare 38 = .ok (.aload_n 0, 1) := fo_dd DX7_outlierShare_0 22 rfl
theorem dX7_outlierShare_39 : decode cX7_outlierShare 39 = .ok (.iconst 3, 1) := fo_dd DX7_outlierShare_0 23 rfl
theorem dX7_outlierShare_40 : decode cX7_outlierShare 40 = .ok (.invokevirtual 178, 3) := fo_dd DX7_outlierShare_0 24 rfl
theorem dX7_outlierShare_43 : decode cX7_outlierShare 43 = .ok (.iadd, 1) := fo_dd DX7_outlierShare_0 25 rfl
theorem dX7_outlierShare_44 : decode cX7_outlierShare 44 = .ok (.i2f, 1) := fo_dd DX7_outlierShare_0 26 rfl
theorem dX7_outlierShare_45 : decode cX7_outlierShare 45 = .ok (.aload_n 0, 1) := fo_dd DX7_outlierShare_0 27 rfl
theorem dX7_outlierShare_46 : decode cX7_outlierShare 46 = .ok (.invokevirtual 100, 3) := fo_dd DX7_outlierShare_0 28 rfl
theorem dX7_outlierShare_49 : decode cX7_outlierShare 49 = .ok (.i2f, 1) := fo_dd DX7_outlierShare_0 29 rfl
theorem dX7_outlierShare_50 : decode cX7_outlierShare 50 = .ok (.fdiv, 1) := fo_dd DX7_outlierShare_0 30 rfl
theorem dX7_outlierShare_51 : decode cX7_outlierShare 51 = .ok (.freturn, 1) := fo_dd DX7_outlierShare_0 31 rfl
theorem DX7_isConsistent_0 : fo_dl cX7_isConsistent [(0, .aload_n 0, 1), (1, .iconst 1, 1), (2, .invokevirtual 181, 3), (5, .iconst 1, 1), (6, .if_icmp .ne 7, 3), (9, .iconst 1, 1), (10, .goto 4, 3), (13, .iconst 0, 1), (14, .ireturn, 1)] := by decide +kernel
theorem dX7_isConsistent_0 : decode cX7_isConsistent 0 = .ok (.aload_n 0, 1) := fo_dd DX7_isConsistent_0 0 rfl
theorem dX7_isConsistent_1 : decode cX7_isConsistent 1 = .ok (.iconst 1, 1) := fo_dd DX7_isConsistent_0 1 rfl
theorem dX7_isConsistent_2 : decode cX7_isConsistent 2 = .ok (.invokevirtual 181, 3) := fo_dd DX7_isConsistent_0 2 rfl
theorem dX7_isConsistent_5 : decode cX7_isConsistent 5 = .ok (.iconst 1, 1) := fo_dd DX7_isConsistent_0 3 rfl
theorem dX7_isConsistent_6 : decode cX7_isConsistent 6 = .ok (.if_icmp .ne 7, 3) := fo_dd DX7_isConsistent_0 4 rfl
theorem dX7_isConsistent_9 : decode cX7_isConsistent 9 = .ok (.iconst 1, 1) := fo_dd DX7_isConsistent_0 5 rfl
theorem dX7_isConsistent_10 : decode cX7_isConsistent 10 = .ok (.goto 4, 3) := fo_dd DX7_isConsistent_0 6 rfl
theorem dX7_isConsistent_13 : decode cX7_isConsistent 13 = .ok (.iconst 0, 1) := fo_dd DX7_isConsistent_0 7 rfl
theorem dX7_isConsistent_14 : decode cX7_isConsistent 14 = .ok (.ireturn, 1) := fo_dd DX7_isConsistent_0 8 rfl
theorem DX7_write_0 : fo_dl cX7_write [(0, .aload_n 0, 1), (1, .getfield 42, 3), (4, .aload_n 0, 1), (5, .getfield 45, 3), (8, .iload_n 1, 1), (9, .iastore, 1), (10, .aload_n 0, 1), (11, .dup, 1), (12, .getfield 45, 3), (15, .iconst 1, 1), (16, .iadd, 1), (17, .putfield 45, 3), (20, .return_, 1)] := by decide +kernel
theorem dX7_write_0 : decode cX7_write 0 = .ok (.aload_n 0, 1) := fo_dd DX7_write_0 0 rfl
theorem dX7_write_1 : decode cX7_write 1 = .ok (.getfield 42, 3) := fo_dd DX7_write_0 1 rfl
theorem dX7_write_4 : decode cX7_write 4 = .ok (.aload_n 0, 1) := fo_dd DX7_write_0 2 rfl
theorem dX7_write_5 : decode cX7_write 5 = .ok (.getfield 45, 3) := fo_dd DX7_write_0 3 rfl
theorem dX7_write_8 : decode cX7_write 8 = .ok (.iload_n 1, 1) := fo_dd DX7_write_0 4 rfl
theorem dX7_write_9 : decode cX7_write 9 = .ok (.iastore, 1) := fo_dd DX7_write_0 5 rfl
theorem dX7_write_10 : decode cX7_write 10 = .ok (.aload_n 0, 1) := fo_dd DX7_write_0 6 rfl
theorem dX7_write_11 : decode cX7_write 11 = .ok (.dup, 1) := fo_dd DX7_write_0 7 rfl
theorem dX7_write_12 : decode cX7_write 12 = .ok (.getfield 45, 3) := fo_dd DX7_write_0 8 rfl
theorem dX7_write_15 : decode cX7_write 15 = .ok (.iconst 1, 1) := fo_dd DX7_write_0 9 rfl
theorem dX7_write_16 : decode cX7_write 16 = .ok (.iadd, 1) := fo_dd DX7_write_0 10 rfl
theorem dX7_write_17 : decode cX7_write 17 = .ok (.putfield 45, 3) := fo_dd DX7_write_0 11 rfl
theorem dX7_write_20 : decode cX7_write 20 = .ok (.return_, 1) := fo_dd DX7_write_0 12 rfl
theorem DX7_writeNumber_0 : fo_dl cX7_writeNumber [(0, .iconst 1, 1), (1, .istore_n 2, 1), (2, .iload_n 1, 1), (3, .iload_n 2, 1), (4, .idiv, 1), (5, .bipush 9, 2), (7, .if_icmp .le 11, 3), (10, .iload_n 2, 1), (11, .bipush 10, 2), (13, .imul, 1), (14, .istore_n 2, 1), (15, .goto (-13), 3), (18, .iload_n 2, 1), (19, .ifCond .le 24, 3), (22, .aload_n 0, 1), (23, .bipush 48, 2), (25, .iload_n 1, 1), (26, .iload_n 2, 1), (27, .idiv, 1), (28, .bipush 10, 2), (30, .irem, 1), (31, .iadd, 1), (32, .invokevirtual 230, 3), (35, .iload_n 2, 1), (36, .bipush 10, 2), (38, .idiv, 1), (39, .istore_n 2, 1), (40, .goto (-22), 3), (43, .return_, 1)] := by decide +kernel
theorem dX7_writeNumber_0 : decode cX7_writeNumber 0 = .ok (.iconst 1, 1) := fo_dd DX7_writeNumber_0 0 rfl
theorem dX7_writeNumber_1 : decode cX7_writeNumber 1 = .ok (.istore_n 2, 1) := fo_dd DX7_writeNumber_0 1 rfl
theorem dX7_writeNumber_2 : decode cX7_writeNumber 2 = .ok (.iload_n 1, 1) := fo_dd DX7_writeNumber_0 2 rfl
theorem dX7_writeNumber_3 : decode cX7_writeNumber 3 = .ok (.iload_n 2, 1) := fo_dd DX7_writeNumber_0 3 rfl
theorem dX7_writeNumber_4 : decode cX7_writeNumber 4 = .ok (.idiv, 1) := fo_dd DX7_writeNumber_0 4 rfl
theorem dX7_writeNumber_5 : decode cX7_writeNumber 5 = .ok (.bipush 9, 2) := fo_dd DX7_writeNumber_0 5 rfl
theorem dX7_writeNumber_7 : decode cX7_writeNumber 7 = .ok (.if_icmp .le 11, 3) := fo_dd DX7_writeNumber_0 6 rfl
theorem dX7_writeNumber_10 : decode cX7_writeNumber 10 = .ok (.iload_n 2, 1) := fo_dd DX7_writeNumber_0 7 rfl
theorem dX7_writeNumber_11 : decode cX7_writeNumber 11 = .ok (.bipush 10, 2) := fo_dd DX7_writeNumber_0 8 rfl
theorem dX7_writeNumber_13 : decode cX7_writeNumber 13 = .ok (.imul, 1) := fo_dd DX7_writeNumber_0 9 rfl
theorem dX7_writeNumber_14 : decode cX7_writeNumber 14 = .ok (.istore_n 2, 1) := fo_dd DX7_writeNumber_0 10 rfl
theorem dX7_writeNumber_15 : decode cX7_writeNumber 15 = .ok (.goto (-13), 3) := fo_dd DX7_writeNumber_0 11 rfl
theorem dX7_writeNumber_18 : decode cX7_writeNumber 18 = .ok (.iload_n 2, 1) := fo_dd DX7_writeNumber_0 12 rfl
theorem dX7_writeNumber_19 : decode cX7_writeNumber 19 = .ok (.ifCond .le 24, 3) := fo_dd DX7_writeNumber_0 13 rfl
theorem dX7_writeNumber_22 : decode cX7_writeNumber 22 = .ok (.aload_n 0, 1) := fo_dd DX7_writeNumber_0 14 rfl
theorem dX7_writeNumber_23 : decode cX7_writeNumber 23 = .ok (.bipush 48, 2) := fo_dd DX7_writeNumber_0 15 rfl
theorem dX7_writeNumber_25 : decode cX7_writeNumber 25 = .ok (.iload_n 1, 1) := fo_dd DX7_writeNumber_0 16 rfl
theorem dX7_writeNumber_26 : decode cX7_writeNumber 26 = .ok (.iload_n 2, 1) := fo_dd DX7_writeNumber_0 17 rfl
theorem dX7_writeNumber_27 : decode cX7_writeNumber 27 = .ok (.idiv, 1) := fo_dd DX7_writeNumber_0 18 rfl
theorem dX7_writeNumber_28 : decode cX7_writeNumber 28 = .ok (.bipush 10, 2) := fo_dd DX7_writeNumber_0 19 rfl
theorem dX7_writeNumber_30 : decode cX7_writeNumber 30 = .ok (.irem, 1) := fo_dd DX7_writeNumber_0 20 rfl
theorem dX7_writeNumber_31 : decode cX7_writeNumber 31 = .ok (.iadd, 1) := fo_dd DX7_writeNumber_0 21 rfl
theorem dX7_writeNumber_32 : decode cX7_writeNumber 32 = .ok (.invokevirtual 230, 3) := fo_dd DX7_writeNumber_0 22 rfl
theorem dX7_writeNumber_35 : decode cX7_writeNumber 35 = .ok (.iload_n 2, 1) := fo_dd DX7_writeNumber_0 23 rfl
theorem dX7_writeNumber_36 : decode cX7_writeNumber 36 = .ok (.bipush 10, 2) := fo_dd DX7_writeNumber_0 24 rfl
theorem dX7_writeNumber_38 : decode cX7_writeNumber 38 = .ok (.idiv, 1) := fo_dd DX7_writeNumber_0 25 rfl
theorem dX7_writeNumber_39 : decode cX7_writeNumber 39 = .ok (.istore_n 2, 1) := fo_dd DX7_writeNumber_0 26 rfl
theorem dX7_writeNumber_40 : decode cX7_writeNumber 40 = .ok (.goto (-22), 3) := fo_dd DX7_writeNumber_0 27 rfl
theorem dX7_writeNumber_43 : decode cX7_writeNumber 43 = .ok (.return_, 1) := fo_dd DX7_writeNumber_0 28 rfl
theorem DX7_writeSeries_0 : fo_dl cX7_writeSeries [(0, .aload_n 0, 1), (1, .iload_n 1, 1), (2, .invokestatic 120, 3), (5, .invokevirtual 135, 3), (8, .ifCond .le 5, 3), (11, .iconst 0, 1), (12, .ireturn, 1), (13, .aload_n 0, 1), (14, .iconst 0, 1), (15, .putfield 45, 3), (18, .aload_n 0, 1), (19, .iload_n 1, 1), (20, .invokevirtual 234, 3), (23, .aload_n 0, 1), (24, .bipush 58, 2), (26, .invokevirtual 230, 3), (29, .iconst 0, 1), (30, .istore_n 2, 1), (31, .iload_n 2, 1), (32, .aload_n 0, 1), (33, .iload_n 1, 1), (34, .invokevirtual 92, 3), (37, .if_icmp .ge 40, 3), (40, .aload_n 0, 1), (41, .bipush 32, 2), (43, .invokevirtual 230, 3), (46, .aload_n 0, 1), (47, .aload_n 0, 1), (48, .iload_n 1, 1), (49, .iload_n 2, 1), (50, .invokevirtual 142, 3), (53, .invokevirtual 234, 3), (56, .aload_n 0, 1), (57, .iload_n 1, 1), (58, .iload_n 2, 1), (59, .invokevirtual 174, 3), (62, .ifCond .eq 9, 3), (65, .aload_n 0, 1), (66, .bipush 33, 2), (68, .invokevirtual 230, 3), (71, .iinc 2 1, 3), (74, .goto (-43), 3), (77, .aload_n 0, 1), (78, .getfield 45, 3), (81, .ireturn, 1)] := by decide +kernel
theorem dX7_writeSeries_0 : decode cX7_writeSeries 0 = .ok (.aload_n 0, 1) := fo_dd DX7_writeSeries_0 0 rfl
theorem dX7_writeSeries_1 : decode cX7_writeSeries 1 = .ok (.iload_n 1, 1) := fo_dd DX7_writeSeries_0 1 rfl
theorem dX7_writeSeries_2 : decode cX7_writeSeries 2 = .ok (.invokestatic 120, 3) := fo_dd DX7_writeSeries_0 2 rfl
theorem dX7_writeSeries_5 : decode cX7_writeSeries 5 = .ok (.invokevirtual 135, 3) := fo_dd DX7_writeSeries_0 3 rfl
theorem dX7_writeSeries_8 : decode cX7_writeSeries 8 = .ok (.ifCond .le 5, 3) := fo_dd DX7_writeSeries_0 4 rfl
theorem dX7_writeSeries_11 : decode cX7_writeSeries 11 = .ok (.iconst 0, 1) := fo_dd DX7_writeSeries_0 5 rfl
theorem dX7_writeSeries_12 : decode cX7_writeSeries 12 = .ok (.ireturn, 1) := fo_dd DX7_writeSeries_0 6 rfl
theorem dX7_writeSeries_13 : decode cX7_writeSeries 13 = .ok (.aload_n 0, 1) := fo_dd DX7_writeSeries_0 7 rfl
theorem dX7_writeSeries_14 : decode cX7_writeSeries 14 = .ok (.iconst 0, 1) := fo_dd DX7_writeSeries_0 8 rfl
theorem dX7_writeSeries_15 : decode cX7_writeSeries 15 = .ok (.putfield 45, 3) := fo_dd DX7_writeSeries_0 9 rfl
theorem dX7_writeSeries_18 : decode cX7_writeSeries 18 = .ok (.aload_n 0, 1) := fo_dd DX7_writeSeries_0 10 rfl
theorem dX7_writeSeries_19 : decode cX7_writeSeries 19 = .ok (.iload_n 1, 1) := fo_dd DX7_writeSeries_0 11 rfl
theorem dX7_writeSeries_20 : decode cX7_writeSeries 20 = .ok (.invokevirtual 234, 3) := fo_dd DX7_writeSeries_0 12 rfl
theorem dX7_writeSeries_23 : decode cX7_writeSeries 23 = .ok (.aload_n 0, 1) := fo_dd DX7_writeSeries_0 13 rfl
theorem dX7_writeSeries_24 : decode cX7_writeSeries 24 = .ok (.bipush 58, 2) := fo_dd DX7_writeSeries_0 14 rfl
theorem dX7_writeSeries_26 : decode cX7_writeSeries 26 = .ok (.invokevirtual 230, 3) := fo_dd DX7_writeSeries_0 15 rfl
theorem dX7_writeSeries_29 : decode cX7_writeSeries 29 = .ok (.iconst 0, 1) := fo_dd DX7_writeSeries_0 16 rfl
theorem dX7_writeSeries_30 : decode cX7_writeSeries 30 = .ok (.istore_n 2, 1) := fo_dd DX7_writeSeries_0 17 rfl
theorem dX7_writeSeries_31 : decode cX7_writeSeries 31 = .ok (.iload_n 2, 1) := fo_dd DX7_writeSeries_0 18 rfl
theorem dX7_writeSeries_32 : decode cX7_writeSeries 32 = .ok (.aload_n 0, 1) := fo_dd DX7_writeSeries_0 19 rfl
theorem dX7_writeSeries_33 : decode cX7_writeSeries 33 = .ok (.iload_n 1, 1) := fo_dd DX7_writeSeries_0 20 rfl
theorem dX7_writeSeries_34 : decode cX7_writeSeries 34 = .ok (.invokevirtual 92, 3) := fo_dd DX7_writeSeries_0 21 rfl
theorem dX7_writeSeries_37 : decode cX7_writeSeries 37 = .ok (.if_icmp .ge 40, 3) := fo_dd DX7_writeSeries_0 22 rfl
theorem dX7_writeSeries_40 : decode cX7_writeSeries 40 = .ok (.aload_n 0, 1) := fo_dd DX7_writeSeries_0 23 rfl
theorem dX7_writeSeries_41 : decode cX7_writeSeries 41 = .ok (.bipush 32, 2) := fo_dd DX7_writeSeries_0 24 rfl
theorem dX7_writeSeries_43 : decode cX7_writeSeries 43 = .ok (.invokevirtual 230, 3) := fo_dd DX7_writeSeries_0 25 rfl
theorem dX7_writeSeries_46 : decode cX7_writeSeries 46 = .ok (.aload_n 0, 1) := fo_dd DX7_writeSeries_0 26 rfl
theorem dX7_writeSeries_47 : decode cX7_writeSeries 47 = .ok (.aload_n 0, 1) := fo_dd DX7_writeSeries_0 27 rfl
theorem dX7_writeSeries_48 : decode cX7_writeSeries 48 = .ok (.iload_n 1, 1) := fo_dd DX7_writeSeries_0 28 rfl
theorem dX7_writeSeries_49 : decode cX7_writeSeries 49 = .ok (.iload_n 2, 1) := fo_dd DX7_writeSeries_0 29 rfl
theorem dX7_writeSeries_50 : decode cX7_writeSeries 50 = .ok (.invokevirtual 142, 3) := fo_dd DX7_writeSeries_0 30 rfl
theorem dX7_writeSeries_53 : decode cX7_writeSeries 53 = .ok (.invokevirtual 234, 3) := fo_dd DX7_writeSeries_0 31 rfl
theorem dX7_writeSeries_56 : decode cX7_writeSeries 56 = .ok (.aload_n 0, 1) := fo_dd DX7_writeSeries_0 32 rfl
theorem dX7_writeSeries_57 : decode cX7_writeSeries 57 = .ok (.iload_n 1, 1) := fo_dd DX7_writeSeries_0 33 rfl
theorem dX7_writeSeries_58 : decode cX7_writeSeries 58 = .ok (.iload_n 2, 1) := fo_dd DX7_writeSeries_0 34 rfl
theorem dX7_writeSeries_59 : decode cX7_writeSeries 59 = .ok (.invokevirtual 174, 3) := fo_dd DX7_writeSeries_0 35 rfl
theorem dX7_writeSeries_62 : decode cX7_writeSeries 62 = .ok (.ifCond .eq 9, 3) := fo_dd DX7_writeSeries_0 36 rfl
theorem dX7_writeSeries_65 : decode cX7_writeSeries 65 = .ok (.aload_n 0, 1) := fo_dd DX7_writeSeries_0 37 rfl
theorem dX7_writeSeries_66 : decode cX7_writeSeries 66 = .ok (.bipush 33, 2) := fo_dd DX7_writeSeries_0 38 rfl
theorem dX7_writeSeries_68 : decode cX7_writeSeries 68 = .ok (.invokevirtual 230, 3) := fo_dd DX7_writeSeries_0 39 rfl
theorem dX7_writeSeries_71 : decode cX7_writeSeries 71 = .ok (.iinc 2 1, 3) := fo_dd DX7_writeSeries_0 40 rfl
theorem dX7_writeSeries_74 : decode cX7_writeSeries 74 = .ok (.goto (-43), 3) := fo_dd DX7_writeSeries_0 41 rfl
theorem dX7_writeSeries_77 : decode cX7_writeSeries 77 = .ok (.aload_n 0, 1) := fo_dd DX7_writeSeries_0 42 rfl
theorem dX7_writeSeries_78 : decode cX7_writeSeries 78 = .ok (.getfield 45, 3) := fo_dd DX7_writeSeries_0 43 rfl
theorem dX7_writeSeries_81 : decode cX7_writeSeries 81 = .ok (.ireturn, 1) := fo_dd DX7_writeSeries_0 44 rfl
theorem DX7_writeProphets_0 : fo_dl cX7_writeProphets [(0, .aload_n 0, 1), (1, .iconst 0, 1), (2, .putfield 25, 3), (5, .aload_n 0, 1), (6, .iconst 0, 1), (7, .putfield 45, 3), (10, .iconst 0, 1), (11, .istore_n 1, 1), (12, .iload_n 1, 1), (13, .aload_n 0, 1), (14, .getfield 7, 3), (17, .iconst 0, 1), (18, .iaload, 1), (19, .if_icmp .ge 79, 3), (22, .iload_n 1, 1), (23, .ifCond .le 9, 3), (26, .aload_n 0, 1), (27, .bipush 32, 2), (29, .invokevirtual 230, 3), (32, .aload_n 0, 1), (33, .getfield 7, 3), (36, .iconst 2, 1), (37, .iload_n 1, 1), (38, .iadd, 1), (39, .iaload, 1), (40, .istore_n 2, 1), (41, .aload_n 0, 1), (42, .iload_n 2, 1), (43, .invokevirtual 230, 3), (46, .iload_n 2, 1), (47, .bipush 109, 2), (49, .if_icmp .eq 15, 3), (52, .iload_n 2, 1), (53, .bipush 100, 2), (55, .if_icmp .eq 9, 3), (58, .iload_n 2, 1), (59, .bipush 115, 2), (61, .if_icmp .ne 16, 3), (64, .aload_n 0, 1), (65, .aload_n 0, 1), (66, .getfield 7, 3), (69, .bipush 10, 2), (71, .iload_n 1, 1), (72, .iadd, 1), (73, .iaload, 1), (74, .invokevirtual 234, 3), (77, .aload_n 0, 1), (78, .bipush 61, 2), (80, .invokevirtual 230, 3), (83, .aload_n 0, 1), (84, .aload_n 0, 1), (85, .iload_n 1, 1), (86, .invokevirtual 227, 3), (89, .invokevirtual 234, 3), (92, .iinc 1 1, 3), (95, .goto (-83), 3), (98, .aload_n 0, 1), (99, .getfield 45, 3), (102, .ireturn, 1)] := by decide +kernel
theorem dX7_writeProphets_0 : decode cX7_writeProphets 0 = .ok (.aload_n 0, 1) := fo_dd DX7_writeProphets_0 0 rfl
theorem dX7_writeProphets_1 : decode cX7_writeProphets 1 = .ok (.iconst 0, 1) := fo_dd DX7_writeProphets_0 1 rfl
theorem dX7_writeProphets_2 : decode cX7_writeProphets 2 = .ok (.putfield 25, 3) := fo_dd DX7_writeProphets_0 2 rfl
theorem dX7_writeProphets_5 : decode cX7_writeProphets 5 = .ok (.aload_n 0, 1) := fo_dd DX7_writeProphets_0 3 rfl
theorem dX7_writeProphets_6 : decode cX7_writeProphets 6 = .ok (.iconst 0, 1) := fo_dd DX7_writeProphets_0 4 rfl
theorem dX7_writeProphets_7 : decode cX7_writeProphets 7 = .ok (.putfield 45, 3) := fo_dd DX7_writeProphets_0 5 rfl
theorem dX7_writeProphets_10 : decode cX7_writeProphets 10 = .ok (.iconst 0, 1) := fo_dd DX7_writeProphets_0 6 rfl
theorem dX7_writeProphets_11 : decode cX7_writeProphets 11 = .ok (.istore_n 1, 1) := fo_dd DX7_writeProphets_0 7 rfl
theorem dX7_writeProphets_12 : decode cX7_writeProphets 12 = .ok (.iload_n 1, 1) := fo_dd DX7_writeProphets_0 8 rfl
theorem dX7_writeProphets_13 : decode cX7_writeProphets 13 = .ok (.aload_n 0, 1) := fo_dd DX7_writeProphets_0 9 rfl
theorem dX7_writeProphets_14 : decode cX7_writeProphets 14 = .ok (.getfield 7, 3) := fo_dd DX7_writeProphets_0 10 rfl
theorem dX7_writeProphets_17 : decode cX7_writeProphets 17 = .ok (.iconst 0, 1) := fo_dd DX7_writeProphets_0 11 rfl
theorem dX7_writeProphets_18 : decode cX7_writeProphets 18 = .ok (.iaload, 1) := fo_dd DX7_writeProphets_0 12 rfl
theorem dX7_writeProphets_19 : decode cX7_writeProphets 19 = .ok (.if_icmp .ge 79, 3) := fo_dd DX7_writeProphets_0 13 rfl
theorem dX7_writeProphets_22 : decode cX7_writeProphets 22 = .ok (.iload_n 1, 1) := fo_dd DX7_writeProphets_0 14 rfl
theorem dX7_writeProphets_23 : decode cX7_writeProphets 23 = .ok (.ifCond .le 9, 3) := fo_dd DX7_writeProphets_0 15 rfl
theorem dX7_writeProphets_26 : decode cX7_writeProphets 26 = .ok (.aload_n 0, 1) := fo_dd DX7_writeProphets_0 16 rfl
theorem dX7_writeProphets_27 : decode cX7_writeProphets 27 = .ok (.bipush 32, 2) := fo_dd DX7_writeProphets_0 17 rfl
theorem dX7_writeProphets_29 : decode cX7_writeProphets 29 = .ok (.invokevirtual 230, 3) := fo_dd DX7_writeProphets_0 18 rfl
theorem dX7_writeProphets_32 : decode cX7_writeProphets 32 = .ok (.aload_n 0, 1) := fo_dd DX7_writeProphets_0 19 rfl
theorem dX7_writeProphets_33 : decode cX7_writeProphets 33 = .ok (.getfield 7, 3) := fo_dd DX7_writeProphets_0 20 rfl
theorem dX7_writeProphets_36 : decode cX7_writeProphets 36 = .ok (.iconst 2, 1) := fo_dd DX7_writeProphets_0 21 rfl
theorem dX7_writeProphets_37 : decode cX7_writeProphets 37 = .ok (.iload_n 1, 1) := fo_dd DX7_writeProphets_0 22 rfl
theorem dX7_writeProphets_38 : decode cX7_writeProphets 38 = .ok (.iadd, 1) := fo_dd DX7_writeProphets_0 23 rfl
theorem dX7_writeProphets_39 : decode cX7_writeProphets 39 = .ok (.iaload, 1) := fo_dd DX7_writeProphets_0 24 rfl
theorem dX7_writeProphets_40 : decode cX7_writeProphets 40 = .ok (.istore_n 2, 1) := fo_dd DX7_writeProphets_0 25 rfl
theorem dX7_writeProphets_41 : decode cX7_writeProphets 41 = .ok (.aload_n 0, 1) := fo_dd DX7_writeProphets_0 26 rfl
theorem dX7_writeProphets_42 : decode cX7_writeProphets 42 = .ok (.iload_n 2, 1) := fo_dd DX7_writeProphets_0 27 rfl
theorem dX7_writeProphets_43 : decode cX7_writeProphets 43 = .ok (.invokevirtual 230, 3) := fo_dd DX7_writeProphets_0 28 rfl
theorem dX7_writeProphets_46 : decode cX7_writeProphets 46 = .ok (.iload_n 2, 1) := fo_dd DX7_writeProphets_0 29 rfl
theorem dX7_writeProphets_47 : decode cX7_writeProphets 47 = .ok (.bipush 109, 2) := fo_dd DX7_writeProphets_0 30 rfl
theorem dX7_writeProphets_49 : decode cX7_writeProphets 49 = .ok (.if_icmp .eq 15, 3) := fo_dd DX7_writeProphets_0 31 rfl
theorem dX7_writeProphets_52 : decode cX7_writeProphets 52 = .ok (.iload_n 2, 1) := fo_dd DX7_writeProphets_0 32 rfl
theorem dX7_writeProphets_53 : decode cX7_writeProphets 53 = .ok (.bipush 100, 2) := fo_dd DX7_writeProphets_0 33 rfl
theorem dX7_writeProphets_55 : decode cX7_writeProphets 55 = .ok (.if_icmp .eq 9, 3) := fo_dd DX7_writeProphets_0 34 rfl
theorem dX7_writeProphets_58 : decode cX7_writeProphets 58 = .ok (.iload_n 2, 1) := fo_dd DX7_writeProphets_0 35 rfl
theorem dX7_writeProphets_59 : decode cX7_writeProphets 59 = .ok (.bipush 115, 2) := fo_dd DX7_writeProphets_0 36 rfl
theorem dX7_writeProphets_61 : decode cX7_writeProphets 61 = .ok (.if_icmp .ne 16, 3) := fo_dd DX7_writeProphets_0 37 rfl
theorem dX7_writeProphets_64 : decode cX7_writeProphets 64 = .ok (.aload_n 0, 1) := fo_dd DX7_writeProphets_0 38 rfl
theorem dX7_writeProphets_65 : decode cX7_writeProphets 65 = .ok (.aload_n 0, 1) := fo_dd DX7_writeProphets_0 39 rfl
theorem dX7_writeProphets_66 : decode cX7_writeProphets 66 = .ok (.getfield 7, 3) := fo_dd DX7_writeProphets_0 40 rfl
theorem dX7_writeProphets_69 : decode cX7_writeProphets 69 = .ok (.bipush 10, 2) := fo_dd DX7_writeProphets_0 41 rfl
theorem dX7_writeProphets_71 : decode cX7_writeProphets 71 = .ok (.iload_n 1, 1) := fo_dd DX7_writeProphets_0 42 rfl
theorem dX7_writeProphets_72 : decode cX7_writeProphets 72 = .ok (.iadd, 1) := fo_dd DX7_writeProphets_0 43 rfl
theorem dX7_writeProphets_73 : decode cX7_writeProphets 73 = .ok (.iaload, 1) := fo_dd DX7_writeProphets_0 44 rfl
theorem dX7_writeProphets_74 : decode cX7_writeProphets 74 = .ok (.invokevirtual 234, 3) := fo_dd DX7_writeProphets_0 45 rfl
theorem dX7_writeProphets_77 : decode cX7_writeProphets 77 = .ok (.aload_n 0, 1) := fo_dd DX7_writeProphets_0 46 rfl
theorem dX7_writeProphets_78 : decode cX7_writeProphets 78 = .ok (.bipush 61, 2) := fo_dd DX7_writeProphets_0 47 rfl
theorem dX7_writeProphets_80 : decode cX7_writeProphets 80 = .ok (.invokevirtual 230, 3) := fo_dd DX7_writeProphets_0 48 rfl
theorem dX7_writeProphets_83 : decode cX7_writeProphets 83 = .ok (.aload_n 0, 1) := fo_dd DX7_writeProphets_0 49 rfl
theorem dX7_writeProphets_84 : decode cX7_writeProphets 84 = .ok (.aload_n 0, 1) := fo_dd DX7_writeProphets_0 50 rfl
theorem dX7_writeProphets_85 : decode cX7_writeProphets 85 = .ok (.iload_n 1, 1) := fo_dd DX7_writeProphets_0 51 rfl
theorem dX7_writeProphets_86 : decode cX7_writeProphets 86 = .ok (.invokevirtual 227, 3) := fo_dd DX7_writeProphets_0 52 rfl
theorem dX7_writeProphets_89 : decode cX7_writeProphets 89 = .ok (.invokevirtual 234, 3) := fo_dd DX7_writeProphets_0 53 rfl
theorem dX7_writeProphets_92 : decode cX7_writeProphets 92 = .ok (.iinc 1 1, 3) := fo_dd DX7_writeProphets_0 54 rfl
theorem dX7_writeProphets_95 : decode cX7_writeProphets 95 = .ok (.goto (-83), 3) := fo_dd DX7_writeProphets_0 55 rfl
theorem dX7_writeProphets_98 : decode cX7_writeProphets 98 = .ok (.aload_n 0, 1) := fo_dd DX7_writeProphets_0 56 rfl
theorem dX7_writeProphets_99 : decode cX7_writeProphets 99 = .ok (.getfield 45, 3) := fo_dd DX7_writeProphets_0 57 rfl
theorem dX7_writeProphets_102 : decode cX7_writeProphets 102 = .ok (.ireturn, 1) := fo_dd DX7_writeProphets_0 58 rfl
theorem DX7_charAt_0 : fo_dl cX7_charAt [(0, .aload_n 0, 1), (1, .iload_n 1, 1), (2, .iconst 0, 1), (3, .aload_n 0, 1), (4, .getfield 45, 3), (7, .iconst 1, 1), (8, .isub, 1), (9, .invokestatic 88, 3), (12, .invokevirtual 135, 3), (15, .ifCond .le 8, 3), (18, .bipush 32, 2), (20, .goto 10, 3), (23, .aload_n 0, 1), (24, .getfield 42, 3), (27, .iload_n 1, 1), (28, .iaload, 1), (29, .i2c, 1), (30, .ireturn, 1)] := by decide +kernel
theorem dX7_charAt_0 : decode cX7_charAt 0 = .ok (.aload_n 0, 1) := fo_dd DX7_charAt_0 0 rfl
theorem dX7_charAt_1 : decode cX7_charAt 1 = .ok (.iload_n 1, 1) := fo_dd DX7_charAt_0 1 rfl
theorem dX7_charAt_2 : decode cX7_charAt 2 = .ok (.iconst 0, 1) := fo_dd DX7_charAt_0 2 rfl
theorem dX7_charAt_3 : decode cX7_charAt 3 = .ok (.aload_n 0, 1) := fo_dd DX7_charAt_0 3 rfl
theorem dX7_charAt_4 : decode cX7_charAt 4 = .ok (.getfield 45, 3) := fo_dd DX7_charAt_0 4 rfl
theorem dX7_charAt_7 : decode cX7_charAt 7 = .ok (.iconst 1, 1) := fo_dd DX7_charAt_0 5 rfl
theorem dX7_charAt_8 : decode cX7_charAt 8 = .ok (.isub, 1) := fo_dd DX7_charAt_0 6 rfl
theorem dX7_charAt_9 : decode cX7_charAt 9 = .ok (.invokestatic 88, 3) := fo_dd DX7_charAt_0 7 rfl
theorem dX7_charAt_12 : decode cX7_charAt 12 = .ok (.invokevirtual 135, 3) := fo_dd DX7_charAt_0 8 rfl
theorem dX7_charAt_15 : decode cX7_charAt 15 = .ok (.ifCond .le 8, 3) := fo_dd DX7_charAt_0 9 rfl
theorem dX7_charAt_18 : decode cX7_charAt 18 = .ok (.bipush 32, 2) := fo_dd DX7_charAt_0 10 rfl
theorem dX7_charAt_20 : decode cX7_charAt 20 = .ok (.goto 10, 3) := fo_dd DX7_charAt_0 11 rfl
theorem dX7_charAt_23 : decode cX7_charAt 23 = .ok (.aload_n 0, 1) := fo_dd DX7_charAt_0 12 rfl
theorem dX7_charAt_24 : decode cX7_charAt 24 = .ok (.getfield 42, 3) := fo_dd DX7_charAt_0 13 rfl
theorem dX7_charAt_27 : decode cX7_charAt 27 = .ok (.iload_n 1, 1) := fo_dd DX7_charAt_0 14 rfl
theorem dX7_charAt_28 : decode cX7_charAt 28 = .ok (.iaload, 1) := fo_dd DX7_charAt_0 15 rfl
theorem dX7_charAt_29 : decode cX7_charAt 29 = .ok (.i2c, 1) := fo_dd DX7_charAt_0 16 rfl
theorem dX7_charAt_30 : decode cX7_charAt 30 = .ok (.ireturn, 1) := fo_dd DX7_charAt_0 17 rfl
theorem DX7_type_0 : fo_dl cX7_type [(0, .aload_n 0, 1), (1, .aload_n 0, 1), (2, .getfield 66, 3), (5, .bipush 60, 2), (7, .if_icmp .ge 7, 3), (10, .iconst 1, 1), (11, .goto 4, 3), (14, .iconst 0, 1), (15, .invokevirtual 135, 3), (18, .ifCond .le 5, 3), (21, .iconst 0, 1), (22, .ireturn, 1), (23, .aload_n 0, 1), (24, .getfield 48, 3), (27, .aload_n 0, 1), (28, .getfield 66, 3), (31, .iload_n 1, 1), (32, .iastore, 1), (33, .aload_n 0, 1), (34, .dup, 1), (35, .getfield 66, 3), (38, .iconst 1, 1), (39, .iadd, 1), (40, .putfield 66, 3), (43, .aload_n 0, 1), (44, .getfield 66, 3), (47, .ireturn, 1)] := by decide +kernel
theorem dX7_type_0 : decode cX7_type 0 = .ok (.aload_n 0, 1) := fo_dd DX7_type_0 0 rfl
theorem dX7_type_1 : decode cX7_type 1 = .ok (.aload_n 0, 1) := fo_dd DX7_type_0 1 rfl
theorem dX7_type_2 : decode cX7_type 2 = .ok (.getfield 66, 3) := fo_dd DX7_type_0 2 rfl
theorem dX7_type_5 : decode cX7_type 5 = .ok (.bipush 60, 2) := fo_dd DX7_type_0 3 rfl
theorem dX7_type_7 : decode cX7_type 7 = .ok (.if_icmp .ge 7, 3) := fo_dd DX7_type_0 4 rfl
theorem dX7_type_10 : decode cX7_type 10 = .ok (.iconst 1, 1) := fo_dd DX7_type_0 5 rfl
theorem dX7_type_11 : decode cX7_type 11 = .ok (.goto 4, 3) := fo_dd DX7_type_0 6 rfl
theorem dX7_type_14 : decode cX7_type 14 = .ok (.iconst 0, 1) := fo_dd DX7_type_0 7 rfl
theorem dX7_type_15 : decode cX7_type 15 = .ok (.invokevirtual 135, 3) := fo_dd DX7_type_0 8 rfl
theorem dX7_type_18 : decode cX7_type 18 = .ok (.ifCond .le 5, 3) := fo_dd DX7_type_0 9 rfl
theorem dX7_type_21 : decode cX7_type 21 = .ok (.iconst 0, 1) := fo_dd DX7_type_0 10 rfl
theorem dX7_type_22 : decode cX7_type 22 = .ok (.ireturn, 1) := fo_dd DX7_type_0 11 rfl
theorem dX7_type_23 : decode cX7_type 23 = .ok (.aload_n 0, 1) := fo_dd DX7_type_0 12 rfl
theorem dX7_type_24 : decode cX7_type 24 = .ok (.getfield 48, 3) := fo_dd DX7_type_0 13 rfl
theorem dX7_type_27 : decode cX7_type 27 = .ok (.aload_n 0, 1) := fo_dd DX7_type_0 14 rfl
theorem dX7_type_28 : decode cX7_type 28 = .ok (.getfield 66, 3) := fo_dd DX7_type_0 15 rfl
theorem dX7_type_31 : decode cX7_type 31 = .ok (.iload_n 1, 1) := fo_dd DX7_type_0 16 rfl
theorem dX7_type_32 : decode cX7_type 32 = .ok (.iastore, 1) := fo_dd DX7_type_0 17 rfl
theorem dX7_type_33 : decode cX7_type 33 = .ok (.aload_n 0, 1) := fo_dd DX7_type_0 18 rfl
theorem dX7_type_34 : decode cX7_type 34 = .ok (.dup, 1) := fo_dd DX7_type_0 19 rfl
theorem dX7_type_35 : decode cX7_type 35 = .ok (.getfield 66, 3) := fo_dd DX7_type_0 20 rfl
theorem dX7_type_38 : decode cX7_type 38 = .ok (.iconst 1, 1) := fo_dd DX7_type_0 21 rfl
theorem dX7_type_39 : decode cX7_type 39 = .ok (.iadd, 1) := fo_dd DX7_type_0 22 rfl
theorem dX7_type_40 : decode cX7_type 40 = .ok (.putfield 66, 3) := fo_dd DX7_type_0 23 rfl
theorem dX7_type_43 : decode cX7_type 43 = .ok (.aload_n 0, 1) := fo_dd DX7_type_0 24 rfl
theorem dX7_type_44 : decode cX7_type 44 = .ok (.getfield 66, 3) := fo_dd DX7_type_0 25 rfl
theorem dX7_type_47 : decode cX7_type 47 = .ok (.ireturn, 1) := fo_dd DX7_type_0 26 rfl
theorem DX7_mark_0 : fo_dl cX7_mark [(0, .aload_n 0, 1), (1, .getfield 81, 3), (4, .ifCond .ne 26, 3), (7, .aload_n 0, 1), (8, .getfield 72, 3), (11, .aload_n 0, 1), (12, .getfield 69, 3), (15, .if_icmp .ge 15, 3), (18, .aload_n 0, 1), (19, .getfield 48, 3), (22, .aload_n 0, 1), (23, .getfield 72, 3), (26, .iaload, 1), (27, .goto 4, 3), (30, .iconst (-1), 1), (31, .ireturn, 1)] := by decide +kernel
theorem dX7_mark_0 : decode cX7_mark 0 = .ok (.aload_n 0, 1) := fo_dd DX7_mark_0 0 rfl
theorem dX7_mark_1 : decode cX7_mark 1 = .ok (.getfield 81, 3) := fo_dd DX7_mark_0 1 rfl
theorem dX7_mark_4 : decode cX7_mark 4 = .ok (.ifCond .ne 26, 3) := fo_dd DX7_mark_0 2 rfl
theorem dX7_mark_7 : decode cX7_mark 7 = .ok (.aload_n 0, 1) := fo_dd DX7_mark_0 3 rfl
theorem dX7_mark_8 : decode cX7_mark 8 = .ok (.getfield 72, 3) := fo_dd DX7_mark_0 4 rfl
theorem dX7_mark_11 : decode cX7_mark 11 = .ok (.aload_n 0, 1) := fo_dd DX7_mark_0 5 rfl
theorem dX7_mark_12 : decode cX7_mark 12 = .ok (.getfield 69, 3) := fo_dd DX7_mark_0 6 rfl
theorem dX7_mark_15 : decode cX7_mark 15 = .ok (.if_icmp .ge 15, 3) := fo_dd DX7_mark_0 7 rfl
theorem dX7_mark_18 : decode cX7_mark 18 = .ok (.aload_n 0, 1) := fo_dd DX7_mark_0 8 rfl
theorem dX7_mark_19 : decode cX7_mark 19 = .ok (.getfield 48, 3) := fo_dd DX7_mark_0 9 rfl
theorem dX7_mark_22 : decode cX7_mark 22 = .ok (.aload_n 0, 1) := fo_dd DX7_mark_0 10 rfl
theorem dX7_mark_23 : decode cX7_mark 23 = .ok (.getfield 72, 3) := fo_dd DX7_mark_0 11 rfl
theorem dX7_mark_26 : decode cX7_mark 26 = .ok (.iaload, 1) := fo_dd DX7_mark_0 12 rfl
theorem dX7_mark_27 : decode cX7_mark 27 = .ok (.goto 4, 3) := fo_dd DX7_mark_0 13 rfl
theorem dX7_mark_30 : decode cX7_mark 30 = .ok (.iconst (-1), 1) := fo_dd DX7_mark_0 14 rfl
theorem dX7_mark_31 : decode cX7_mark 31 = .ok (.ireturn, 1) := fo_dd DX7_mark_0 15 rfl
theorem DX7_expect_0 : fo_dl cX7_expect [(0, .aload_n 0, 1), (1, .dup, 1), (2, .getfield 81, 3), (5, .aload_n 0, 1), (6, .invokevirtual 237, 3), (9, .iload_n 1, 1), (10, .if_icmp .eq 7, 3), (13, .iconst 1, 1), (14, .goto 4, 3), (17, .iconst 0, 1), (18, .ior, 1), (19, .putfield 81, 3), (22, .aload_n 0, 1), (23, .dup, 1), (24, .getfield 72, 3), (27, .aload_n 0, 1), (28, .getfield 81, 3), (31, .ifCond .eq 7, 3), (34, .iconst 0, 1), (35, .goto 4, 3), (38, .iconst 1, 1), (39, .iadd, 1), (40, .putfield 72, 3), (43, .return_, 1)] := by decide +kernel
theorem dX7_expect_0 : decode cX7_expect 0 = .ok (.aload_n 0, 1) := fo_dd DX7_expect_0 0 rfl
theorem dX7_expect_1 : decode cX7_expect 1 = .ok (.dup, 1) := fo_dd DX7_expect_0 1 rfl
theorem dX7_expect_2 : decode cX7_expect 2 = .ok (.getfield 81, 3) := fo_dd DX7_expect_0 2 rfl
theorem dX7_expect_5 : decode cX7_expect 5 = .ok (.aload_n 0, 1) := fo_dd DX7_expect_0 3 rfl
theorem dX7_expect_6 : decode cX7_expect 6 = .ok (.invokevirtual 237, 3) := fo_dd DX7_expect_0 4 rfl
theorem dX7_expect_9 : decode cX7_expect 9 = .ok (.iload_n 1, 1) := fo_dd DX7_expect_0 5 rfl
theorem dX7_expect_10 : decode cX7_expect 10 = .ok (.if_icmp .eq 7, 3) := fo_dd DX7_expect_0 6 rfl
theorem dX7_expect_13 : decode cX7_expect 13 = .ok (.iconst 1, 1) := fo_dd DX7_expect_0 7 rfl
theorem dX7_expect_14 : decode cX7_expect 14 = .ok (.goto 4, 3) := fo_dd DX7_expect_0 8 rfl
theorem dX7_expect_17 : decode cX7_expect 17 = .ok (.iconst 0, 1) := fo_dd DX7_expect_0 9 rfl
theorem dX7_expect_18 : decode cX7_expect 18 = .ok (.ior, 1) := fo_dd DX7_expect_0 10 rfl
theorem dX7_expect_19 : decode cX7_expect 19 = .ok (.putfield 81, 3) := fo_dd DX7_expect_0 11 rfl
theorem dX7_expect_22 : decode cX7_expect 22 = .ok (.aload_n 0, 1) := fo_dd DX7_expect_0 12 rfl
theorem dX7_expect_23 : decode cX7_expect 23 = .ok (.dup, 1) := fo_dd DX7_expect_0 13 rfl
theorem dX7_expect_24 : decode cX7_expect 24 = .ok (.getfield 72, 3) := fo_dd DX7_expect_0 14 rfl
theorem dX7_expect_27 : decode cX7_expect 27 = .ok (.aload_n 0, 1) := fo_dd DX7_expect_0 15 rfl
theorem dX7_expect_28 : decode cX7_expect 28 = .ok (.getfield 81, 3) := fo_dd DX7_expect_0 16 rfl
theorem dX7_expect_31 : decode cX7_expect 31 = .ok (.ifCond .eq 7, 3) := fo_dd DX7_expect_0 17 rfl
theorem dX7_expect_34 : decode cX7_expect 34 = .ok (.iconst 0, 1) := fo_dd DX7_expect_0 18 rfl
theorem dX7_expect_35 : decode cX7_expect 35 = .ok (.goto 4, 3) := fo_dd DX7_expect_0 19 rfl
theorem dX7_expect_38 : decode cX7_expect 38 = .ok (.iconst 1, 1) := fo_dd DX7_expect_0 20 rfl
theorem dX7_expect_39 : decode cX7_expect 39 = .ok (.iadd, 1) := fo_dd DX7_expect_0 21 rfl
theorem dX7_expect_40 : decode cX7_expect 40 = .ok (.putfield 72, 3) := fo_dd DX7_expect_0 22 rfl
theorem dX7_expect_43 : decode cX7_expect 43 = .ok (.return_, 1) := fo_dd DX7_expect_0 23 rfl
theorem DX7_number_0 : fo_dl cX7_number [(0, .aload_n 0, 1), (1, .dup, 1), (2, .getfield 81, 3), (5, .aload_n 0, 1), (6, .invokevirtual 237, 3), (9, .bipush 48, 2), (11, .bipush 57, 2), (13, .invokestatic 88, 3), (16, .ifCond .ne 7, 3), (19, .iconst 1, 1), (20, .goto 4, 3), (23, .iconst 0, 1), (24, .ior, 1), (25, .putfield 81, 3), (28, .iconst 0, 1), (29, .istore_n 2, 1), (30, .iconst 0, 1), (31, .istore_n 3, 1), (32, .iload_n 3, 1), (33, .iload_n 1, 1), (34, .if_icmp .ge 51, 3), (37, .aload_n 0, 1), (38, .invokevirtual 237, 3), (41, .bipush 48, 2), (43, .bipush 57, 2), (45, .invokestatic 88, 3), (48, .ifCond .eq 37, 3), (51, .bipush 10, 2), (53, .iload_n 2, 1), (54, .imul, 1), (55, .aload_n 0, 1), (56, .getfield 48, 3), (59, .aload_n 0, 1), (60, .getfield 72, 3), (63, .iaload, 1), (64, .iadd, 1), (65, .bipush 48, 2), (67, .isub, 1), (68, .istore_n 2, 1), (69, .aload_n 0, 1), (70, .dup, 1), (71, .getfield 72, 3), (74, .iconst 1, 1), (75, .iadd, 1), (76, .putfield 72, 3), (79, .iinc 3 1, 3), (82, .goto (-50), 3), (85, .iload_n 2, 1), (86, .ireturn, 1)] := by decide +kernel
theorem dX7_number_0 : decode cX7_number 0 = .ok (.aload_n 0, 1) := fo_dd DX7_number_0 0 rfl
theorem dX7_number_1 : decode cX7_number 1 = .ok (.dup, 1) := fo_dd DX7_number_0 1 rfl
theorem dX7_number_2 : decode cX7_number 2 = .ok (.getfield 81, 3) := fo_dd DX7_number_0 2 rfl
theorem dX7_number_5 : decode cX7_number 5 = .ok (.aload_n 0, 1) := fo_dd DX7_number_0 3 rfl
theorem dX7_number_6 : decode cX7_number 6 = .ok (.invokevirtual 237, 3) := fo_dd DX7_number_0 4 rfl
theorem dX7_number_9 : decode cX7_number 9 = .ok (.bipush 48, 2) := fo_dd DX7_number_0 5 rfl
theorem dX7_number_11 : decode cX7_number 11 = .ok (.bipush 57, 2) := fo_dd DX7_number_0 6 rfl
theorem dX7_number_13 : decode cX7_number 13 = .ok (.invokestatic 88, 3) := fo_dd DX7_number_0 7 rfl
theorem dX7_number_16 : decode cX7_number 16 = .ok (.ifCond .ne 7, 3) := fo_dd DX7_number_0 8 rfl
theorem dX7_number_19 : decode cX7_number 19 = .ok (.iconst 1, 1) := fo_dd DX7_number_0 9 rfl
theorem dX7_number_20 : decode cX7_number 20 = .ok (.goto 4, 3) := fo_dd DX7_number_0 10 rfl
theorem dX7_number_23 : decode cX7_number 23 = .ok (.iconst 0, 1) := fo_dd DX7_number_0 11 rfl
theorem dX7_number_24 : decode cX7_number 24 = .ok (.ior, 1) := fo_dd DX7_number_0 12 rfl
theorem dX7_number_25 : decode cX7_number 25 = .ok (.putfield 81, 3) := fo_dd DX7_number_0 13 rfl
theorem dX7_number_28 : decode cX7_number 28 = .ok (.iconst 0, 1) := fo_dd DX7_number_0 14 rfl
theorem dX7_number_29 : decode cX7_number 29 = .ok (.istore_n 2, 1) := fo_dd DX7_number_0 15 rfl
theorem dX7_number_30 : decode cX7_number 30 = .ok (.iconst 0, 1) := fo_dd DX7_number_0 16 rfl
theorem dX7_number_31 : decode cX7_number 31 = .ok (.istore_n 3, 1) := fo_dd DX7_number_0 17 rfl
theorem dX7_number_32 : decode cX7_number 32 = .ok (.iload_n 3, 1) := fo_dd DX7_number_0 18 rfl
theorem dX7_number_33 : decode cX7_number 33 = .ok (.iload_n 1, 1) := fo_dd DX7_number_0 19 rfl
theorem dX7_number_34 : decode cX7_number 34 = .ok (.if_icmp .ge 51, 3) := fo_dd DX7_number_0 20 rfl
theorem dX7_number_37 : decode cX7_number 37 = .ok (.aload_n 0, 1) := fo_dd DX7_number_0 21 rfl
theorem dX7_number_38 : decode cX7_number 38 = .ok (.invokevirtual 237, 3) := fo_dd DX7_number_0 22 rfl
theorem dX7_number_41 : decode cX7_number 41 = .ok (.bipush 48, 2) := fo_dd DX7_number_0 23 rfl
theorem dX7_number_43 : decode cX7_number 43 = .ok (.bipush 57, 2) := fo_dd DX7_number_0 24 rfl
theorem dX7_number_45 : decode cX7_number 45 = .ok (.invokestatic 88, 3) := fo_dd DX7_number_0 25 rfl
theorem dX7_number_48 : decode cX7_number 48 = .ok (.ifCond .eq 37, 3) := fo_dd DX7_number_0 26 rfl
theorem dX7_number_51 : decode cX7_number 51 = .ok (.bipush 10, 2) := fo_dd DX7_number_0 27 rfl
theorem dX7_number_53 : decode cX7_number 53 = .ok (.iload_n 2, 1) := fo_dd DX7_number_0 28 rfl
theorem dX7_number_54 : decode cX7_number 54 = .ok (.imul, 1) := fo_dd DX7_number_0 29 rfl
theorem dX7_number_55 : decode cX7_number 55 = .ok (.aload_n 0, 1) := fo_dd DX7_number_0 30 rfl
theorem dX7_number_56 : decode cX7_number 56 = .ok (.getfield 48, 3) := fo_dd DX7_number_0 31 rfl
theorem dX7_number_59 : decode cX7_number 59 = .ok (.aload_n 0, 1) := fo_dd DX7_number_0 32 rfl
theorem dX7_number_60 : decode cX7_number 60 = .ok (.getfield 72, 3) := fo_dd DX7_number_0 33 rfl
theorem dX7_number_63 : decode cX7_number 63 = .ok (.iaload, 1) := fo_dd DX7_number_0 34 rfl
theorem dX7_number_64 : decode cX7_number 64 = .ok (.iadd, 1) := fo_dd DX7_number_0 35 rfl
theorem dX7_number_65 : decode cX7_number 65 = .ok (.bipush 48, 2) := fo_dd DX7_number_0 36 rfl
theorem dX7_number_67 : decode cX7_number 67 = .ok (.isub, 1) := fo_dd DX7_number_0 37 rfl
theorem dX7_number_68 : decode cX7_number 68 = .ok (.istore_n 2, 1) := fo_dd DX7_number_0 38 rfl
theorem dX7_number_69 : decode cX7_number 69 = .ok (.aload_n 0, 1) := fo_dd DX7_number_0 39 rfl
theorem dX7_number_70 : decode cX7_number 70 = .ok (.dup, 1) := fo_dd DX7_number_0 40 rfl
theorem dX7_number_71 : decode cX7_number 71 = .ok (.getfield 72, 3) := fo_dd DX7_number_0 41 rfl
theorem dX7_number_74 : decode cX7_number 74 = .ok (.iconst 1, 1) := fo_dd DX7_number_0 42 rfl
theorem dX7_number_75 : decode cX7_number 75 = .ok (.iadd, 1) := fo_dd DX7_number_0 43 rfl
theorem dX7_number_76 : decode cX7_number 76 = .ok (.putfield 72, 3) := fo_dd DX7_number_0 44 rfl
theorem dX7_number_79 : decode cX7_number 79 = .ok (.iinc 3 1, 3) := fo_dd DX7_number_0 45 rfl
theorem dX7_number_82 : decode cX7_number 82 = .ok (.goto (-50), 3) := fo_dd DX7_number_0 46 rfl
theorem dX7_number_85 : decode cX7_number 85 = .ok (.iload_n 2, 1) := fo_dd DX7_number_0 47 rfl
theorem dX7_number_86 : decode cX7_number 86 = .ok (.ireturn, 1) := fo_dd DX7_number_0 48 rfl
theorem DX7_pick_0 : fo_dl cX7_pick [(0, .iload_n 0, 1), (1, .tableswitch 61 0 6 #[43, 45, 47, 49, 52, 55, 58], 43), (44, .iload_n 1, 1), (45, .ireturn, 1), (46, .iload_n 2, 1), (47, .ireturn, 1), (48, .iload_n 3, 1), (49, .ireturn, 1), (50, .iload 4, 2), (52, .ireturn, 1), (53, .iload 5, 2), (55, .ireturn, 1), (56, .iload 6, 2), (58, .ireturn, 1), (59, .iload 7, 2), (61, .ireturn, 1), (62, .iconst 0, 1), (63, .ireturn, 1)] := by decide +kernel
theorem dX7_pick_0 : decode cX7_pick 0 = .ok (.iload_n 0, 1) := fo_dd DX7_pick_0 0 rfl
theorem dX7_pick_1 : decode cX7_pick 1 = .ok (.tableswitch 61 0 6 #[43, 45, 47, 49, 52, 55, 58], 43) := fo_dd DX7_pick_0 1 rfl
theorem dX7_pick_44 : decode cX7_pick 44 = .ok (.iload_n 1, 1) := fo_dd DX7_pick_0 2 rfl
theorem dX7_pick_45 : decode cX7_pick 45 = .ok (.ireturn, 1) := fo_dd DX7_pick_0 3 rfl
theorem dX7_pick_46 : decode cX7_pick 46 = .ok (.iload_n 2, 1) := fo_dd DX7_pick_0 4 rfl
theorem dX7_pick_47 : decode cX7_pick 47 = .ok (.ireturn, 1) := fo_dd DX7_pick_0 5 rfl
theorem dX7_pick_48 : decode cX7_pick 48 = .ok (.iload_n 3, 1) := fo_dd DX7_pick_0 6 rfl
theorem dX7_pick_49 : decode cX7_pick 49 = .ok (.ireturn, 1) := fo_dd DX7_pick_0 7 rfl
theorem dX7_pick_50 : decode cX7_pick 50 = .ok (.iload 4, 2) := fo_dd DX7_pick_0 8 rfl
theorem dX7_pick_52 : decode cX7_pick 52 = .ok (.ireturn, 1) := fo_dd DX7_pick_0 9 rfl
theorem dX7_pick_53 : decode cX7_pick 53 = .ok (.iload 5, 2) := fo_dd DX7_pick_0 10 rfl
theorem dX7_pick_55 : decode cX7_pick 55 = .ok (.ireturn, 1) := fo_dd DX7_pick_0 11 rfl
theorem dX7_pick_56 : decode cX7_pick 56 = .ok (.iload 6, 2) := fo_dd DX7_pick_0 12 rfl
theorem dX7_pick_58 : decode cX7_pick 58 = .ok (.ireturn, 1) := fo_dd DX7_pick_0 13 rfl
theorem dX7_pick_59 : decode cX7_pick 59 = .ok (.iload 7, 2) := fo_dd DX7_pick_0 14 rfl
theorem dX7_pick_61 : decode cX7_pick 61 = .ok (.ireturn, 1) := fo_dd DX7_pick_0 15 rfl
theorem dX7_pick_62 : decode cX7_pick 62 = .ok (.iconst 0, 1) := fo_dd DX7_pick_0 16 rfl
theorem dX7_pick_63 : decode cX7_pick 63 = .ok (.ireturn, 1) := fo_dd DX7_pick_0 17 rfl
theorem DX7_spelled_0 : fo_dl cX7_spelled [(0, .iload_n 0, 1), (1, .tableswitch 78 0 2 #[27, 46, 61], 27), (28, .iload_n 1, 1), (29, .bipush 112, 2), (31, .bipush 114, 2), (33, .bipush 111, 2), (35, .bipush 112, 2), (37, .bipush 104, 2), (39, .bipush 101, 2), (41, .bipush 116, 2), (43, .invokestatic 240, 3), (46, .ireturn, 1), (47, .iload_n 1, 1), (48, .bipush 115, 2), (50, .bipush 101, 2), (52, .bipush 101, 2), (54, .iconst 0, 1), (55, .iconst 0, 1), (56, .iconst 0, 1), (57, .iconst 0, 1), (58, .invokestatic 240, 3), (61, .ireturn, 1), (62, .iload_n 1, 1), (63, .bipush 108, 2), (65, .bipush 105, 2), (67, .bipush 109, 2), (69, .bipush 105, 2), (71, .bipush 116, 2), (73, .iconst 0, 1), (74, .iconst 0, 1), (75, .invokestatic 240, 3), (78, .ireturn, 1), (79, .iload_n 1, 1), (80, .bipush 102, 2), (82, .bipush 111, 2), (84, .bipush 114, 2), (86, .bipush 103, 2), (88, .bipush 101, 2), (90, .bipush 116, 2), (92, .iconst 0, 1), (93, .invokestatic 240, 3), (96, .ireturn, 1)] := by decide +kernel
theorem dX7_spelled_0 : decode cX7_spelled 0 = .ok (.iload_n 0, 1) := fo_dd DX7_spelled_0 0 rfl
theorem dX7_spelled_1 : decode cX7_spelled 1 = .ok (.tableswitch 78 0 2 #[27, 46, 61], 27) := fo_dd DX7_spelled_0 1 rfl
theorem dX7_spelled_28 : decode cX7_spelled 28 = .ok (.iload_n 1, 1) := fo_dd DX7_spelled_0 2 rfl
theorem dX7_spelled_29 : decode cX7_spelled 29 = .ok (.bipush 112, 2) := fo_dd DX7_spelled_0 3 rfl
theorem dX7_spelled_31 : decode cX7_spelled 31 = .ok (.bipush 114, 2) := fo_dd DX7_spelled_0 4 rfl
theorem dX7_spelled_33 : decode cX7_spelled 33 = .ok (.bipush 111, 2) := fo_dd DX7_spelled_0 5 rfl
theorem dX7_spelled_35 : decode cX7_spelled 35 = .ok (.bipush 112, 2) := fo_dd DX7_spelled_0 6 rfl
theorem dX7_spelled_37 : decode cX7_spelled 37 = .ok (.bipush 104, 2) := fo_dd DX7_spelled_0 7 rfl
theorem dX7_spelled_39 : decode cX7_spelled 39 = .ok (.bipush 101, 2) := fo_dd DX7_spelled_0 8 rfl
theorem dX7_spelled_41 : decode cX7_spelled 41 = .ok (.bipush 116, 2) := fo_dd DX7_spelled_0 9 rfl
theorem dX7_spelled_43 : decode cX7_spelled 43 = .ok (.invokestatic 240, 3) := fo_dd DX7_spelled_0 10 rfl
theorem dX7_spelled_46 : decode cX7_spelled 46 = .ok (.ireturn, 1) := fo_dd DX7_spelled_0 11 rfl
theorem dX7_spelled_47 : decode cX7_spelled 47 = .ok (.iload_n 1, 1) := fo_dd DX7_spelled_0 12 rfl
theorem dX7_spelled_48 : decode cX7_spelled 48 = .ok (.bipush 115, 2) := fo_dd DX7_spelled_0 13 rfl
theorem dX7_spelled_50 : decode cX7_spelled 50 = .ok (.bipush 101, 2) := fo_dd DX7_spelled_0 14 rfl
theorem dX7_spelled_52 : decode cX7_spelled 52 = .ok (.bipush 101, 2) := fo_dd DX7_spelled_0 15 rfl
theorem dX7_spelled_54 : decode cX7_spelled 54 = .ok (.iconst 0, 1) := fo_dd DX7_spelled_0 16 rfl
theorem dX7_spelled_55 : decode cX7_spelled 55 = .ok (.iconst 0, 1) := fo_dd DX7_spelled_0 17 rfl
theorem dX7_spelled_56 : decode cX7_spelled 56 = .ok (.iconst 0, 1) := fo_dd DX7_spelled_0 18 rfl
theorem dX7_spelled_57 : decode cX7_spelled 57 = .ok (.iconst 0, 1) := fo_dd DX7_spelled_0 19 rfl
theorem dX7_spelled_58 : decode cX7_spelled 58 = .ok (.invokestatic 240, 3) := fo_dd DX7_spelled_0 20 rfl
theorem dX7_spelled_61 : decode cX7_spelled 61 = .ok (.ireturn, 1) := fo_dd DX7_spelled_0 21 rfl
theorem dX7_spelled_62 : decode cX7_spelled 62 = .ok (.iload_n 1, 1) := fo_dd DX7_spelled_0 22 rfl
theorem dX7_spelled_63 : decode cX7_spelled 63 = .ok (.bipush 108, 2) := fo_dd DX7_spelled_0 23 rfl
theorem dX7_spelled_65 : decode cX7_spelled 65 = .ok (.bipush 105, 2) := fo_dd DX7_spelled_0 24 rfl
theorem dX7_spelled_67 : decode cX7_spelled 67 = .ok (.bipush 109, 2) := fo_dd DX7_spelled_0 25 rfl
theorem dX7_spelled_69 : decode cX7_spelled 69 = .ok (.bipush 105, 2) := fo_dd DX7_spelled_0 26 rfl
theorem dX7_spelled_71 : decode cX7_spelled 71 = .ok (.bipush 116, 2) := fo_dd DX7_spelled_0 27 rfl
theorem dX7_spelled_73 : decode cX7_spelled 73 = .ok (.iconst 0, 1) := fo_dd DX7_spelled_0 28 rfl
theorem dX7_spelled_74 : decode cX7_spelled 74 = .ok (.iconst 0, 1) := fo_dd DX7_spelled_0 29 rfl
theorem dX7_spelled_75 : decode cX7_spelled 75 = .ok (.invokestatic 240, 3) := fo_dd DX7_spelled_0 30 rfl
theorem dX7_spelled_78 : decode cX7_spelled 78 = .ok (.ireturn, 1) := fo_dd DX7_spelled_0 31 rfl
theorem dX7_spelled_79 : decode cX7_spelled 79 = .ok (.iload_n 1, 1) := fo_dd DX7_spelled_0 32 rfl
theorem dX7_spelled_80 : decode cX7_spelled 80 = .ok (.bipush 102, 2) := fo_dd DX7_spelled_0 33 rfl
theorem dX7_spelled_82 : decode cX7_spelled 82 = .ok (.bipush 111, 2) := fo_dd DX7_spelled_0 34 rfl
theorem dX7_spelled_84 : decode cX7_spelled 84 = .ok (.bipush 114, 2) := fo_dd DX7_spelled_0 35 rfl
theorem dX7_spelled_86 : decode cX7_spelled 86 = .ok (.bipush 103, 2) := fo_dd DX7_spelled_0 36 rfl
theorem dX7_spelled_88 : decode cX7_spelled 88 = .ok (.bipush 101, 2) := fo_dd DX7_spelled_0 37 rfl
theorem dX7_spelled_90 : decode cX7_spelled 90 = .ok (.bipush 116, 2) := fo_dd DX7_spelled_0 38 rfl
theorem dX7_spelled_92 : decode cX7_spelled 92 = .ok (.iconst 0, 1) := fo_dd DX7_spelled_0 39 rfl
theorem dX7_spelled_93 : decode cX7_spelled 93 = .ok (.invokestatic 240, 3) := fo_dd DX7_spelled_0 40 rfl
theorem dX7_spelled_96 : decode cX7_spelled 96 = .ok (.ireturn, 1) := fo_dd DX7_spelled_0 41 rfl
theorem DX7_word_0 : fo_dl cX7_word [(0, .iconst 0, 1), (1, .istore_n 1, 1), (2, .iconst 0, 1), (3, .istore_n 2, 1), (4, .iload_n 2, 1), (5, .iconst 4, 1), (6, .if_icmp .ge 88, 3), (9, .iconst 0, 1), (10, .istore_n 3, 1), (11, .iload_n 2, 1), (12, .iload_n 3, 1), (13, .invokestatic 244, 3), (16, .ifCond .le 41, 3), (19, .aload_n 0, 1), (20, .getfield 72, 3), (23, .iload_n 3, 1), (24, .iadd, 1), (25, .aload_n 0, 1), (26, .getfield 69, 3), (29, .if_icmp .ge 28, 3), (32, .aload_n 0, 1), (33, .getfield 48, 3), (36, .aload_n 0, 1), (37, .getfield 72, 3), (40, .iload_n 3, 1), (41, .iadd, 1), (42, .iaload, 1), (43, .iload_n 2, 1), (44, .iload_n 3, 1), (45, .invokestatic 244, 3), (48, .if_icmp .ne 9, 3), (51, .iinc 3 1, 3), (54, .goto (-43), 3), (57, .iload_n 2, 1), (58, .iload_n 3, 1), (59, .invokestatic 244, 3), (62, .ifCond .ne 15, 3), (65, .aload_n 0, 1), (66, .dup, 1), (67, .getfield 72, 3), (70, .iload_n 3, 1), (71, .iadd, 1), (72, .putfield 72, 3), (75, .iload_n 2, 1), (76, .ireturn, 1), (77, .iload_n 3, 1), (78, .iload_n 1, 1), (79, .if_icmp .le 7, 3), (82, .iload_n 3, 1), (83, .goto 4, 3), (86, .iload_n 1, 1), (87, .istore_n 1, 1), (88, .iinc 2 1, 3), (91, .goto (-87), 3), (94, .aload_n 0, 1), (95, .dup, 1), (96, .getfield 72, 3), (99, .iload_n 1, 1), (100, .iadd, 1), (101, .putfield 72, 3), (104, .aload_n 0, 1), (105, .iconst 1, 1), (106, .putfield 81, 3), (109, .iconst 0, 1)] := by decide +kernel
theorem dX7_word_0 : decode cX7_word 0 = .ok (.iconst 0, 1) := fo_dd DX7_word_0 0 rfl
theorem dX7_word_1 : decode cX7_word 1 = .ok (.istore_n 1, 1) := fo_dd DX7_word_0 1 rfl
theorem dX7_word_2 : decode cX7_word 2 = .ok (.iconst 0, 1) := fo_dd DX7_word_0 2 rfl
theorem dX7_word_3 : decode cX7_word 3 = .ok (.istore_n 2, 1) := fo_dd DX7_word_0 3 rfl
theorem dX7_word_4 : decode cX7_word 4 = .ok (.iload_n 2, 1) := fo_dd DX7_word_0 4 rfl
theorem dX7_word_5 : decode cX7_word 5 = .ok (.iconst 4, 1) := fo_dd DX7_word_0 5 rfl
theorem dX7_word_6 : decode cX7_word 6 = .ok (.if_icmp .ge 88, 3) := fo_dd DX7_word_0 6 rfl
theorem dX7_word_9 : decode cX7_word 9 = .ok (.iconst 0, 1) := fo_dd DX7_word_0 7 rfl
theorem dX7_word_10 : decode cX7_word 10 = .ok (.istore_n 3, 1) := fo_dd DX7_word_0 8 rfl
theorem dX7_word_11 : decode cX7_word 11 = .ok (.iload_n 2, 1) := fo_dd DX7_word_0 9 rfl
theorem dX7_word_12 : decode cX7_word 12 = .ok (.iload_n 3, 1) := fo_dd DX7_word_0 10 rfl
theorem dX7_word_13 : decode cX7_word 13 = .ok (.invokestatic 244, 3) := fo_dd DX7_word_0 11 rfl
theorem dX7_word_16 : decode cX7_word 16 = .ok (.ifCond .le 41, 3) := fo_dd DX7_word_0 12 rfl
theorem dX7_word_19 : decode cX7_word 19 = .ok (.aload_n 0, 1) := fo_dd DX7_word_0 13 rfl
theorem dX7_word_20 : decode cX7_word 20 = .ok (.getfield 72, 3) := fo_dd DX7_word_0 14 rfl
theorem dX7_word_23 : decode cX7_word 23 = .ok (.iload_n 3, 1) := fo_dd DX7_word_0 15 rfl
theorem dX7_word_24 : decode cX7_word 24 = .ok (.iadd, 1) := fo_dd DX7_word_0 16 rfl
theorem dX7_word_25 : decode cX7_word 25 = .ok (.aload_n 0, 1) := fo_dd DX7_word_0 17 rfl
theorem dX7_word_26 : decode cX7_word 26 = .ok (.getfield 69, 3) := fo_dd DX7_word_0 18 rfl
theorem dX7_word_29 : decode cX7_word 29 = .ok (.if_icmp .ge 28, 3) := fo_dd DX7_word_0 19 rfl
theorem dX7_word_32 : decode cX7_word 32 = .ok (.aload_n 0, 1) := fo_dd DX7_word_0 20 rfl
theorem dX7_word_33 : decode cX7_word 33 = .ok (.getfield 48, 3) := fo_dd DX7_word_0 21 rfl
theorem dX7_word_36 : decode cX7_word 36 = .ok (.aload_n 0, 1) := fo_dd DX7_word_0 22 rfl
theorem dX7_word_37 : decode cX7_word 37 = .ok (.getfield 72, 3) := fo_dd DX7_word_0 23 rfl
theorem dX7_word_40 : decode cX7_word 40 = .ok (.iload_n 3, 1) := fo_dd DX7_word_0 24 rfl
theorem dX7_word_41 : decode cX7_word 41 = .ok (.iadd, 1) := fo_dd DX7_word_0 25 rfl
theorem dX7_word_42 : decode cX7_word 42 = .ok (.iaload, 1) := fo_dd DX7_word_0 26 rfl
theorem dX7_word_43 : decode cX7_word 43 = .ok (.iload_n 2, 1) := fo_dd DX7_word_0 27 rfl
theorem dX7_word_44 : decode cX7_word 44 = .ok (.iload_n 3, 1) := fo_dd DX7_word_0 28 rfl
theorem dX7_word_45 : decode cX7_word 45 = .ok (.invokestatic 244, 3) := fo_dd DX7_word_0 29 rfl
theorem dX7_word_48 : decode cX7_word 48 = .ok (.if_icmp .ne 9, 3) := fo_dd DX7_word_0 30 rfl
theorem dX7_word_51 : decode cX7_word 51 = .ok (.iinc 3 1, 3) := fo_dd DX7_word_0 31 rfl
theorem dX7_word_54 : decode cX7_word 54 = .ok (.goto (-43), 3) := fo_dd DX7_word_0 32 rfl
theorem dX7_word_57 : decode cX7_word 57 = .ok (.iload_n 2, 1) := fo_dd DX7_word_0 33 rfl
theorem dX7_word_58 : decode cX7_word 58 = .ok (.iload_n 3, 1) := fo_dd DX7_word_0 34 rfl
theorem dX7_word_59 : decode cX7_word 59 = .ok (.invokestatic 244, 3) := fo_dd DX7_word_0 35 rfl
theorem dX7_word_62 : decode cX7_word 62 = .ok (.ifCond .ne 15, 3) := fo_dd DX7_word_0 36 rfl
theorem dX7_word_65 : decode cX7_word 65 = .ok (.aload_n 0, 1) := fo_dd DX7_word_0 37 rfl
theorem dX7_word_66 : decode cX7_word 66 = .ok (.dup, 1) := fo_dd DX7_word_0 38 rfl
theorem dX7_word_67 : decode cX7_word 67 = .ok (.getfield 72, 3) := fo_dd DX7_word_0 39 rfl
theorem dX7_word_70 : decode cX7_word 70 = .ok (.iload_n 3, 1) := fo_dd DX7_word_0 40 rfl
theorem dX7_word_71 : decode cX7_word 71 = .ok (.iadd, 1) := fo_dd DX7_word_0 41 rfl
theorem dX7_word_72 : decode cX7_word 72 = .ok (.putfield 72, 3) := fo_dd DX7_word_0 42 rfl
theorem dX7_word_75 : decode cX7_word 75 = .ok (.iload_n 2, 1) := fo_dd DX7_word_0 43 rfl
theorem dX7_word_76 : decode cX7_word 76 = .ok (.ireturn, 1) := fo_dd DX7_word_0 44 rfl
theorem dX7_word_77 : decode cX7_word 77 = .ok (.iload_n 3, 1) := fo_dd DX7_word_0 45 rfl
theorem dX7_word_78 : decode cX7_word 78 = .ok (.iload_n 1, 1) := fo_dd DX7_word_0 46 rfl
theorem dX7_word_79 : decode cX7_word 79 = .ok (.if_icmp .le 7, 3) := fo_dd DX7_word_0 47 rfl
theorem dX7_word_82 : decode cX7_word 82 = .ok (.iload_n 3, 1) := fo_dd DX7_word_0 48 rfl
theorem dX7_word_83 : decode cX7_word 83 = .ok (.goto 4, 3) := fo_dd DX7_word_0 49 rfl
theorem dX7_word_86 : decode cX7_word 86 = .ok (.iload_n 1, 1) := fo_dd DX7_word_0 50 rfl
theorem dX7_word_87 : decode cX7_word 87 = .ok (.istore_n 1, 1) := fo_dd DX7_word_0 51 rfl
theorem dX7_word_88 : decode cX7_word 88 = .ok (.iinc 2 1, 3) := fo_dd DX7_word_0 52 rfl
theorem dX7_word_91 : decode cX7_word 91 = .ok (.goto (-87), 3) := fo_dd DX7_word_0 53 rfl
theorem dX7_word_94 : decode cX7_word 94 = .ok (.aload_n 0, 1) := fo_dd DX7_word_0 54 rfl
theorem dX7_word_95 : decode cX7_word 95 = .ok (.dup, 1) := fo_dd DX7_word_0 55 rfl
theorem dX7_word_96 : decode cX7_word 96 = .ok (.getfield 72, 3) := fo_dd DX7_word_0 56 rfl
theorem dX7_word_99 : decode cX7_word 99 = .ok (.iload_n 1, 1) := fo_dd DX7_word_0 57 rfl
theorem dX7_word_100 : decode cX7_word 100 = .ok (.iadd, 1) := fo_dd DX7_word_0 58 rfl
theorem dX7_word_101 : decode cX7_word 101 = .ok (.putfield 72, 3) := fo_dd DX7_word_0 59 rfl
theorem dX7_word_104 : decode cX7_word 104 = .ok (.aload_n 0, 1) := fo_dd DX7_word_0 60 rfl
theorem dX7_word_105 : decode cX7_word 105 = .ok (.iconst 1, 1) := fo_dd DX7_word_0 61 rfl
theorem dX7_word_106 : decode cX7_word 106 = .ok (.putfield 81, 3) := fo_dd DX7_word_0 62 rfl
theorem dX7_word_109 : decode cX7_word 109 = .ok (.iconst 0, 1) := fo_dd DX7_word_0 63 rfl
theorem DX7_word_1 : fo_dl cX7_word [(110, .ireturn, 1)] := by decide +kernel
theorem dX7_word_110 : decode cX7_word 110 = .ok (.ireturn, 1) := fo_dd DX7_word_1 0 rfl
theorem DX7_prophetKind_0 : fo_dl cX7_prophetKind [(0, .aload_n 0, 1), (1, .invokevirtual 237, 3), (4, .istore_n 1, 1), (5, .aload_n 0, 1), (6, .dup, 1), (7, .getfield 81, 3), (10, .iload_n 1, 1), (11, .invokestatic 96, 3), (14, .ifCond .ne 7, 3), (17, .iconst 1, 1), (18, .goto 4, 3), (21, .iconst 0, 1), (22, .ior, 1), (23, .putfield 81, 3), (26, .aload_n 0, 1), (27, .dup, 1), (28, .getfield 72, 3), (31, .aload_n 0, 1), (32, .getfield 81, 3), (35, .ifCond .eq 7, 3), (38, .iconst 0, 1), (39, .goto 4, 3), (42, .iconst 1, 1), (43, .iadd, 1), (44, .putfield 72, 3), (47, .iload_n 1, 1), (48, .ireturn, 1)] := by decide +kernel
theorem dX7_prophetKind_0 : decode cX7_prophetKind 0 = .ok (.aload_n 0, 1) := fo_dd DX7_prophetKind_0 0 rfl
theorem dX7_prophetKind_1 : decode cX7_prophetKind 1 = .ok (.invokevirtual 237, 3) := fo_dd DX7_prophetKind_0 1 rfl
theorem dX7_prophetKind_4 : decode cX7_prophetKind 4 = .ok (.istore_n 1, 1) := fo_dd DX7_prophetKind_0 2 rfl
theorem dX7_prophetKind_5 : decode cX7_prophetKind 5 = .ok (.aload_n 0, 1) := fo_dd DX7_prophetKind_0 3 rfl
theorem dX7_prophetKind_6 : decode cX7_prophetKind 6 = .ok (.dup, 1) := fo_dd DX7_prophetKind_0 4 rfl
theorem dX7_prophetKind_7 : decode cX7_prophetKind 7 = .ok (.getfield 81, 3) := fo_dd DX7_prophetKind_0 5 rfl
theorem dX7_prophetKind_10 : decode cX7_prophetKind 10 = .ok (.iload_n 1, 1) := fo_dd DX7_prophetKind_0 6 rfl
theorem dX7_prophetKind_11 : decode cX7_prophetKind 11 = .ok (.invokestatic 96, 3) := fo_dd DX7_prophetKind_0 7 rfl
theorem dX7_prophetKind_14 : decode cX7_prophetKind 14 = .ok (.ifCond .ne 7, 3) := fo_dd DX7_prophetKind_0 8 rfl
theorem dX7_prophetKind_17 : decode cX7_prophetKind 17 = .ok (.iconst 1, 1) := fo_dd DX7_prophetKind_0 9 rfl
theorem dX7_prophetKind_18 : decode cX7_prophetKind 18 = .ok (.goto 4, 3) := fo_dd DX7_prophetKind_0 10 rfl
theorem dX7_prophetKind_21 : decode cX7_prophetKind 21 = .ok (.iconst 0, 1) := fo_dd DX7_prophetKind_0 11 rfl
theorem dX7_prophetKind_22 : decode cX7_prophetKind 22 = .ok (.ior, 1) := fo_dd DX7_prophetKind_0 12 rfl
theorem dX7_prophetKind_23 : decode cX7_prophetKind 23 = .ok (.putfield 81, 3) := fo_dd DX7_prophetKind_0 13 rfl
theorem dX7_prophetKind_26 : decode cX7_prophetKind 26 = .ok (.aload_n 0, 1) := fo_dd DX7_prophetKind_0 14 rfl
theorem dX7_prophetKind_27 : decode cX7_prophetKind 27 = .ok (.dup, 1) := fo_dd DX7_prophetKind_0 15 rfl
theorem dX7_prophetKind_28 : decode cX7_prophetKind 28 = .ok (.getfield 72, 3) := fo_dd DX7_prophetKind_0 16 rfl
theorem dX7_prophetKind_31 : decode cX7_prophetKind 31 = .ok (.aload_n 0, 1) := fo_dd DX7_prophetKind_0 17 rfl
theorem dX7_prophetKind_32 : decode cX7_prophetKind 32 = .ok (.getfield 81, 3) := fo_dd DX7_prophetKind_0 18 rfl
theorem dX7_prophetKind_35 : decode cX7_prophetKind 35 = .ok (.ifCond .eq 7, 3) := fo_dd DX7_prophetKind_0 19 rfl
theorem dX7_prophetKind_38 : decode cX7_prophetKind 38 = .ok (.iconst 0, 1) := fo_dd DX7_prophetKind_0 20 rfl
theorem dX7_prophetKind_39 : decode cX7_prophetKind 39 = .ok (.goto 4, 3) := fo_dd DX7_prophetKind_0 21 rfl
theorem dX7_prophetKind_42 : decode cX7_prophetKind 42 = .ok (.iconst 1, 1) := fo_dd DX7_prophetKind_0 22 rfl
theorem dX7_prophetKind_43 : decode cX7_prophetKind 43 = .ok (.iadd, 1) := fo_dd DX7_prophetKind_0 23 rfl
theorem dX7_prophetKind_44 : decode cX7_prophetKind 44 = .ok (.putfield 72, 3) := fo_dd DX7_prophetKind_0 24 rfl
theorem dX7_prophetKind_47 : decode cX7_prophetKind 47 = .ok (.iload_n 1, 1) := fo_dd DX7_prophetKind_0 25 rfl
theorem dX7_prophetKind_48 : decode cX7_prophetKind 48 = .ok (.ireturn, 1) := fo_dd DX7_prophetKind_0 26 rfl
theorem DX7_readsValue_0 : fo_dl cX7_readsValue [(0, .aload_n 0, 1), (1, .iconst 3, 1), (2, .invokevirtual 247, 3), (5, .istore_n 1, 1), (6, .aload_n 0, 1), (7, .getfield 81, 3), (10, .ifCond .eq 4, 3), (13, .return_, 1), (14, .aload_n 0, 1), (15, .getfield 63, 3), (18, .aload_n 0, 1), (19, .getfield 78, 3), (22, .iload_n 1, 1), (23, .iastore, 1), (24, .aload_n 0, 1), (25, .dup, 1), (26, .getfield 78, 3), (29, .iconst 1, 1), (30, .iadd, 1), (31, .putfield 78, 3), (34, .return_, 1)] := by decide +kernel
theorem dX7_readsValue_0 : decode cX7_readsValue 0 = .ok (.aload_n 0, 1) := fo_dd DX7_readsValue_0 0 rfl
theorem dX7_readsValue_1 : decode cX7_readsValue 1 = .ok (.iconst 3, 1) := fo_dd DX7_readsValue_0 1 rfl
theorem dX7_readsValue_2 : decode cX7_readsValue 2 = .ok (.invokevirtual 247, 3) := fo_dd DX7_readsValue_0 2 rfl
theorem dX7_readsValue_5 : decode cX7_readsValue 5 = .ok (.istore_n 1, 1) := fo_dd DX7_readsValue_0 3 rfl
theorem dX7_readsValue_6 : decode cX7_readsValue 6 = .ok (.aload_n 0, 1) := fo_dd DX7_readsValue_0 4 rfl
theorem dX7_readsValue_7 : decode cX7_readsValue 7 = .ok (.getfield 81, 3) := fo_dd DX7_readsValue_0 5 rfl
theorem dX7_readsValue_10 : decode cX7_readsValue 10 = .ok (.ifCond .eq 4, 3) := fo_dd DX7_readsValue_0 6 rfl
theorem dX7_readsValue_13 : decode cX7_readsValue 13 = .ok (.return_, 1) := fo_dd DX7_readsValue_0 7 rfl
theorem dX7_readsValue_14 : decode cX7_readsValue 14 = .ok (.aload_n 0, 1) := fo_dd DX7_readsValue_0 8 rfl
theorem dX7_readsValue_15 : decode cX7_readsValue 15 = .ok (.getfield 63, 3) := fo_dd DX7_readsValue_0 9 rfl
theorem dX7_readsValue_18 : decode cX7_readsValue 18 = .ok (.aload_n 0, 1) := fo_dd DX7_readsValue_0 10 rfl
theorem dX7_readsValue_19 : decode cX7_readsValue 19 = .ok (.getfield 78, 3) := fo_dd DX7_readsValue_0 11 rfl
theorem dX7_readsValue_22 : decode cX7_readsValue 22 = .ok (.iload_n 1, 1) := fo_dd DX7_readsValue_0 12 rfl
theorem dX7_readsValue_23 : decode cX7_readsValue 23 = .ok (.iastore, 1) := fo_dd DX7_readsValue_0 13 rfl
theorem dX7_readsValue_24 : decode cX7_readsValue 24 = .ok (.aload_n 0, 1) := fo_dd DX7_readsValue_0 14 rfl
theorem dX7_readsValue_25 : decode cX7_readsValue 25 = .ok (.dup, 1) := fo_dd DX7_readsValue_0 15 rfl
theorem dX7_readsValue_26 : decode cX7_readsValue 26 = .ok (.getfield 78, 3) := fo_dd DX7_readsValue_0 16 rfl
theorem dX7_readsValue_29 : decode cX7_readsValue 29 = .ok (.iconst 1, 1) := fo_dd DX7_readsValue_0 17 rfl
theorem dX7_readsValue_30 : decode cX7_readsValue 30 = .ok (.iadd, 1) := fo_dd DX7_readsValue_0 18 rfl
theorem dX7_readsValue_31 : decode cX7_readsValue 31 = .ok (.putfield 78, 3) := fo_dd DX7_readsValue_0 19 rfl
theorem dX7_readsValue_34 : decode cX7_readsValue 34 = .ok (.return_, 1) := fo_dd DX7_readsValue_0 20 rfl
theorem DX7_command_0 : fo_dl cX7_command [(0, .aload_n 0, 1), (1, .invokevirtual 250, 3), (4, .istore_n 1, 1), (5, .aload_n 0, 1), (6, .bipush 32, 2), (8, .invokevirtual 253, 3), (11, .iload_n 1, 1), (12, .ifCond .ne 10, 3), (15, .aload_n 0, 1), (16, .invokevirtual 256, 3), (19, .goto 8, 3), (22, .aload_n 0, 1), (23, .iconst 1, 1), (24, .invokevirtual 247, 3), (27, .istore_n 2, 1), (28, .iconst 1, 1), (29, .istore_n 3, 1), (30, .iload_n 1, 1), (31, .ifCond .ne 27, 3), (34, .iload_n 2, 1), (35, .bipush 109, 2), (37, .if_icmp .eq 15, 3), (40, .iload_n 2, 1), (41, .bipush 100, 2), (43, .if_icmp .eq 9, 3), (46, .iload_n 2, 1), (47, .bipush 115, 2), (49, .if_icmp .ne 9, 3), (52, .aload_n 0, 1), (53, .iconst 1, 1), (54, .invokevirtual 247, 3), (57, .istore_n 3, 1), (58, .iload_n 1, 1), (59, .iconst 1, 1), (60, .if_icmp .ne 39, 3), (63, .aload_n 0, 1), (64, .bipush 61, 2), (66, .invokevirtual 253, 3), (69, .aload_n 0, 1), (70, .invokevirtual 259, 3), (73, .aload_n 0, 1), (74, .invokevirtual 237, 3), (77, .bipush 44, 2), (79, .if_icmp .ne 20, 3), (82, .aload_n 0, 1), (83, .dup, 1), (84, .getfield 72, 3), (87, .iconst 1, 1), (88, .iadd, 1), (89, .putfield 72, 3), (92, .aload_n 0, 1), (93, .invokevirtual 259, 3), (96, .goto (-23), 3), (99, .aload_n 0, 1), (100, .getfield 81, 3), (103, .ifCond .eq 4, 3), (106, .return_, 1), (107, .aload_n 0, 1), (108, .getfield 51, 3), (111, .aload_n 0, 1), (112, .getfield 75, 3), (115, .iload_n 1, 1), (116, .iastore, 1), (117, .aload_n 0, 1)] := by decide +kernel
theorem dX7_command_0 : decode cX7_command 0 = .ok (.aload_n 0, 1) := fo_dd DX7_command_0 0 rfl
theorem dX7_command_1 : decode cX7_command 1 = .ok (.invokevirtual 250, 3) := fo_dd DX7_command_0 1 rfl
theorem dX7_command_4 : decode cX7_command 4 = .ok (.istore_n 1, 1) := fo_dd DX7_command_0 2 rfl
theorem dX7_command_5 : decode cX7_command 5 = .ok (.aload_n 0, 1) := fo_dd DX7_command_0 3 rfl
theorem dX7_command_6 : decode cX7_command 6 = .ok (.bipush 32, 2) := fo_dd DX7_command_0 4 rfl
theorem dX7_command_8 : decode cX7_command 8 = .ok (.invokevirtual 253, 3) := fo_dd DX7_command_0 5 rfl
theorem dX7_command_11 : decode cX7_command 11 = .ok (.iload_n 1, 1) := fo_dd DX7_command_0 6 rfl
theorem dX7_command_12 : decode cX7_command 12 = .ok (.ifCond .ne 10, 3) := fo_dd DX7_command_0 7 rfl
theorem dX7_command_15 : decode cX7_command 15 = .ok (.aload_n 0, 1) := fo_dd DX7_command_0 8 rfl
theorem dX7_command_16 : decode cX7_command 16 = .ok (.invokevirtual 256, 3) := fo_dd DX7_command_0 9 rfl
theorem dX7_command_19 : decode cX7_command 19 = .ok (.goto 8, 3) := fo_dd DX7_command_0 10 rfl
theorem dX7_command_22 : decode cX7_command 22 = .ok (.aload_n 0, 1) := fo_dd DX7_command_0 11 rfl
theorem dX7_command_23 : decode cX7_command 23 = .ok (.iconst 1, 1) := fo_dd DX7_command_0 12 rfl
theorem dX7_command_24 : decode cX7_command 24 = .ok (.invokevirtual 247, 3) := fo_dd DX7_command_0 13 rfl
theorem dX7_command_27 : decode cX7_command 27 = .ok (.istore_n 2, 1) := fo_dd DX7_command_0 14 rfl
theorem dX7_command_28 : decode cX7_command 28 = .ok (.iconst 1, 1) := fo_dd DX7_command_0 15 rfl
theorem dX7_command_29 : decode cX7_command 29 = .ok (.istore_n 3, 1) := fo_dd DX7_command_0 16 rfl
theorem dX7_command_30 : decode cX7_command 30 = .ok (.iload_n 1, 1) := fo_dd DX7_command_0 17 rfl
theorem dX7_command_31 : decode cX7_command 31 = .ok (.ifCond .ne 27, 3) := fo_dd DX7_command_0 18 rfl
theorem dX7_command_34 : decode cX7_command 34 = .ok (.iload_n 2, 1) := fo_dd DX7_command_0 19 rfl
theorem dX7_command_35 : decode cX7_command 35 = .ok (.bipush 109, 2) := fo_dd DX7_command_0 20 rfl
theorem dX7_command_37 : decode cX7_command 37 = .ok (.if_icmp .eq 15, 3) := fo_dd DX7_command_0 21 rfl
theorem dX7_command_40 : decode cX7_command 40 = .ok (.iload_n 2, 1) := fo_dd DX7_command_0 22 rfl
theorem dX7_command_41 : decode cX7_command 41 = .ok (.bipush 100, 2) := fo_dd DX7_command_0 23 rfl
theorem dX7_command_43 : decode cX7_command 43 = .ok (.if_icmp .eq 9, 3) := fo_dd DX7_command_0 24 rfl
theorem dX7_command_46 : decode cX7_command 46 = .ok (.iload_n 2, 1) := fo_dd DX7_command_0 25 rfl
theorem dX7_command_47 : decode cX7_command 47 = .ok (.bipush 115, 2) := fo_dd DX7_command_0 26 rfl
theorem dX7_command_49 : decode cX7_command 49 = .ok (.if_icmp .ne 9, 3) := fo_dd DX7_command_0 27 rfl
theorem dX7_command_52 : decode cX7_command 52 = .ok (.aload_n 0, 1) := fo_dd DX7_command_0 28 rfl
theorem dX7_command_53 : decode cX7_command 53 = .ok (.iconst 1, 1) := fo_dd DX7_command_0 29 rfl
theorem dX7_command_54 : decode cX7_command 54 = .ok (.invokevirtual 247, 3) := fo_dd DX7_command_0 30 rfl
theorem dX7_command_57 : decode cX7_command 57 = .ok (.istore_n 3, 1) := fo_dd DX7_command_0 31 rfl
theorem dX7_command_58 : decode cX7_command 58 = .ok (.iload_n 1, 1) := fo_dd DX7_command_0 32 rfl
theorem dX7_command_59 : decode cX7_command 59 = .ok (.iconst 1, 1) := fo_dd DX7_command_0 33 rfl
theorem dX7_command_60 : decode cX7_command 60 = .ok (.if_icmp .ne 39, 3) := fo_dd DX7_command_0 34 rfl
theorem dX7_command_63 : decode cX7_command 63 = .ok (.aload_n 0, 1) := fo_dd DX7_command_0 35 rfl
theorem dX7_command_64 : decode cX7_command 64 = .ok (.bipush 61, 2) := fo_dd DX7_command_0 36 rfl
theorem dX7_command_66 : decode cX7_command 66 = .ok (.invokevirtual 253, 3) := fo_dd DX7_command_0 37 rfl
theorem dX7_command_69 : decode cX7_command 69 = .ok (.aload_n 0, 1) := fo_dd DX7_command_0 38 rfl
theorem dX7_command_70 : decode cX7_command 70 = .ok (.invokevirtual 259, 3) := fo_dd DX7_command_0 39 rfl
theorem dX7_command_73 : decode cX7_command 73 = .ok (.aload_n 0, 1) := fo_dd DX7_command_0 40 rfl
theorem dX7_command_74 : decode cX7_command 74 = .ok (.invokevirtual 237, 3) := fo_dd DX7_command_0 41 rfl
theorem dX7_command_77 : decode cX7_command 77 = .ok (.bipush 44, 2) := fo_dd DX7_command_0 42 rfl
theorem dX7_command_79 : decode cX7_command 79 = .ok (.if_icmp .ne 20, 3) := fo_dd DX7_command_0 43 rfl
theorem dX7_command_82 : decode cX7_command 82 = .ok (.aload_n 0, 1) := fo_dd DX7_command_0 44 rfl
theorem dX7_command_83 : decode cX7_command 83 = .ok (.dup, 1) := fo_dd DX7_command_0 45 rfl
theorem dX7_command_84 : decode cX7_command 84 = .ok (.getfield 72, 3) := fo_dd DX7_command_0 46 rfl
theorem dX7_command_87 : decode cX7_command 87 = .ok (.iconst 1, 1) := fo_dd DX7_command_0 47 rfl
theorem dX7_command_88 : decode cX7_command 88 = .ok (.iadd, 1) := fo_dd DX7_command_0 48 rfl
theorem dX7_command_89 : decode cX7_command 89 = .ok (.putfield 72, 3) := fo_dd DX7_command_0 49 rfl
theorem dX7_command_92 : decode cX7_command 92 = .ok (.aload_n 0, 1) := fo_dd DX7_command_0 50 rfl
theorem dX7_command_93 : decode cX7_command 93 = .ok (.invokevirtual 259, 3) := fo_dd DX7_command_0 51 rfl
theorem dX7_command_96 : decode cX7_command 96 = .ok (.goto (-23), 3) := fo_dd DX7_command_0 52 rfl
theorem dX7_command_99 : decode cX7_command 99 = .ok (.aload_n 0, 1) := fo_dd DX7_command_0 53 rfl
theorem dX7_command_100 : decode cX7_command 100 = .ok (.getfield 81, 3) := fo_dd DX7_command_0 54 rfl
theorem dX7_command_103 : decode cX7_command 103 = .ok (.ifCond .eq 4, 3) := fo_dd DX7_command_0 55 rfl
theorem dX7_command_106 : decode cX7_command 106 = .ok (.return_, 1) := fo_dd DX7_command_0 56 rfl
theorem dX7_command_107 : decode cX7_command 107 = .ok (.aload_n 0, 1) := fo_dd DX7_command_0 57 rfl
theorem dX7_command_108 : decode cX7_command 108 = .ok (.getfield 51, 3) := fo_dd DX7_command_0 58 rfl
theorem dX7_command_111 : decode cX7_command 111 = .ok (.aload_n 0, 1) := fo_dd DX7_command_0 59 rfl
theorem dX7_command_112 : decode cX7_command 112 = .ok (.getfield 75, 3) := fo_dd DX7_command_0 60 rfl
theorem dX7_command_115 : decode cX7_command 115 = .ok (.iload_n 1, 1) := fo_dd DX7_command_0 61 rfl
theorem dX7_command_116 : decode cX7_command 116 = .ok (.iastore, 1) := fo_dd DX7_command_0 62 rfl
theorem dX7_command_117 : decode cX7_command 117 = .ok (.aload_n 0, 1) := fo_dd DX7_command_0 63 rfl
theorem DX7_command_1 : fo_dl cX7_command [(118, .getfield 54, 3), (121, .aload_n 0, 1), (122, .getfield 75, 3), (125, .iload_n 2, 1), (126, .iastore, 1), (127, .aload_n 0, 1), (128, .getfield 57, 3), (131, .aload_n 0, 1), (132, .getfield 75, 3), (135, .iload_n 3, 1), (136, .iastore, 1), (137, .aload_n 0, 1), (138, .getfield 60, 3), (141, .aload_n 0, 1), (142, .getfield 75, 3), (145, .aload_n 0, 1), (146, .getfield 78, 3), (149, .iastore, 1), (150, .aload_n 0, 1), (151, .dup, 1), (152, .getfield 75, 3), (155, .iconst 1, 1), (156, .iadd, 1), (157, .putfield 75, 3), (160, .return_, 1)] := by decide +kernel
theorem dX7_command_118 : decode cX7_command 118 = .ok (.getfield 54, 3) := fo_dd DX7_command_1 0 rfl
theorem dX7_command_121 : decode cX7_command 121 = .ok (.aload_n 0, 1) := fo_dd DX7_command_1 1 rfl
theorem dX7_command_122 : decode cX7_command 122 = .ok (.getfield 75, 3) := fo_dd DX7_command_1 2 rfl
theorem dX7_command_125 : decode cX7_command 125 = .ok (.iload_n 2, 1) := fo_dd DX7_command_1 3 rfl
theorem dX7_command_126 : decode cX7_command 126 = .ok (.iastore, 1) := fo_dd DX7_command_1 4 rfl
theorem dX7_command_127 : decode cX7_command 127 = .ok (.aload_n 0, 1) := fo_dd DX7_command_1 5 rfl
theorem dX7_command_128 : decode cX7_command 128 = .ok (.getfield 57, 3) := fo_dd DX7_command_1 6 rfl
theorem dX7_command_131 : decode cX7_command 131 = .ok (.aload_n 0, 1) := fo_dd DX7_command_1 7 rfl
theorem dX7_command_132 : decode cX7_command 132 = .ok (.getfield 75, 3) := fo_dd DX7_command_1 8 rfl
theorem dX7_command_135 : decode cX7_command 135 = .ok (.iload_n 3, 1) := fo_dd DX7_command_1 9 rfl
theorem dX7_command_136 : decode cX7_command 136 = .ok (.iastore, 1) := fo_dd DX7_command_1 10 rfl
theorem dX7_command_137 : decode cX7_command 137 = .ok (.aload_n 0, 1) := fo_dd DX7_command_1 11 rfl
theorem dX7_command_138 : decode cX7_command 138 = .ok (.getfield 60, 3) := fo_dd DX7_command_1 12 rfl
theorem dX7_command_141 : decode cX7_command 141 = .ok (.aload_n 0, 1) := fo_dd DX7_command_1 13 rfl
theorem dX7_command_142 : decode cX7_command 142 = .ok (.getfield 75, 3) := fo_dd DX7_command_1 14 rfl
theorem dX7_command_145 : decode cX7_command 145 = .ok (.aload_n 0, 1) := fo_dd DX7_command_1 15 rfl
theorem dX7_command_146 : decode cX7_command 146 = .ok (.getfield 78, 3) := fo_dd DX7_command_1 16 rfl
theorem dX7_command_149 : decode cX7_command 149 = .ok (.iastore, 1) := fo_dd DX7_command_1 17 rfl
theorem dX7_command_150 : decode cX7_command 150 = .ok (.aload_n 0, 1) := fo_dd DX7_command_1 18 rfl
theorem dX7_command_151 : decode cX7_command 151 = .ok (.dup, 1) := fo_dd DX7_command_1 19 rfl
theorem dX7_command_152 : decode cX7_command 152 = .ok (.getfield 75, 3) := fo_dd DX7_command_1 20 rfl
theorem dX7_command_155 : decode cX7_command 155 = .ok (.iconst 1, 1) := fo_dd DX7_command_1 21 rfl
theorem dX7_command_156 : decode cX7_command 156 = .ok (.iadd, 1) := fo_dd DX7_command_1 22 rfl
theorem dX7_command_157 : decode cX7_command 157 = .ok (.putfield 75, 3) := fo_dd DX7_command_1 23 rfl
theorem dX7_command_160 : decode cX7_command 160 = .ok (.return_, 1) := fo_dd DX7_command_1 24 rfl
theorem DX7_parse_0 : fo_dl cX7_parse [(0, .aload_n 0, 1), (1, .aload_n 0, 1), (2, .getfield 66, 3), (5, .putfield 69, 3), (8, .aload_n 0, 1), (9, .iconst 0, 1), (10, .putfield 66, 3), (13, .aload_n 0, 1), (14, .iconst 0, 1), (15, .putfield 72, 3), (18, .aload_n 0, 1), (19, .iconst 0, 1), (20, .putfield 75, 3), (23, .aload_n 0, 1), (24, .iconst 0, 1), (25, .putfield 78, 3), (28, .aload_n 0, 1), (29, .iconst 0, 1), (30, .putfield 81, 3), (33, .aload_n 0, 1), (34, .invokevirtual 262, 3), (37, .aload_n 0, 1), (38, .invokevirtual 237, 3), (41, .bipush 59, 2), (43, .if_icmp .ne 20, 3), (46, .aload_n 0, 1), (47, .dup, 1), (48, .getfield 72, 3), (51, .iconst 1, 1), (52, .iadd, 1), (53, .putfield 72, 3), (56, .aload_n 0, 1), (57, .invokevirtual 262, 3), (60, .goto (-23), 3), (63, .aload_n 0, 1), (64, .dup, 1), (65, .getfield 81, 3), (68, .aload_n 0, 1), (69, .getfield 72, 3), (72, .aload_n 0, 1), (73, .getfield 69, 3), (76, .if_icmp .ge 7, 3), (79, .iconst 1, 1), (80, .goto 4, 3), (83, .iconst 0, 1), (84, .ior, 1), (85, .putfield 81, 3), (88, .return_, 1)] := by decide +kernel
theorem dX7_parse_0 : decode cX7_parse 0 = .ok (.aload_n 0, 1) := fo_dd DX7_parse_0 0 rfl
theorem dX7_parse_1 : decode cX7_parse 1 = .ok (.aload_n 0, 1) := fo_dd DX7_parse_0 1 rfl
theorem dX7_parse_2 : decode cX7_parse 2 = .ok (.getfield 66, 3) := fo_dd DX7_parse_0 2 rfl
theorem dX7_parse_5 : decode cX7_parse 5 = .ok (.putfield 69, 3) := fo_dd DX7_parse_0 3 rfl
theorem dX7_parse_8 : decode cX7_parse 8 = .ok (.aload_n 0, 1) := fo_dd DX7_parse_0 4 rfl
theorem dX7_parse_9 : decode cX7_parse 9 = .ok (.iconst 0, 1) := fo_dd DX7_parse_0 5 rfl
theorem dX7_parse_10 : decode cX7_parse 10 = .ok (.putfield 66, 3) := fo_dd DX7_parse_0 6 rfl
theorem dX7_parse_13 : decode cX7_parse 13 = .ok (.aload_n 0, 1) := fo_dd DX7_parse_0 7 rfl
theorem dX7_parse_14 : decode cX7_parse 14 = .ok (.iconst 0, 1) := fo_dd DX7_parse_0 8 rfl
theorem dX7_parse_15 : decode cX7_parse 15 = .ok (.putfield 72, 3) := fo_dd DX7_parse_0 9 rfl
theorem dX7_parse_18 : decode cX7_parse 18 = .ok (.aload_n 0, 1) := fo_dd DX7_parse_0 10 rfl
theorem dX7_parse_19 : decode cX7_parse 19 = .ok (.iconst 0, 1) := fo_dd DX7_parse_0 11 rfl
theorem dX7_parse_20 : decode cX7_parse 20 = .ok (.putfield 75, 3) := fo_dd DX7_parse_0 12 rfl
theorem dX7_parse_23 : decode cX7_parse 23 = .ok (.aload_n 0, 1) := fo_dd DX7_parse_0 13 rfl
theorem dX7_parse_24 : decode cX7_parse 24 = .ok (.iconst 0, 1) := fo_dd DX7_parse_0 14 rfl
theorem dX7_parse_25 : decode cX7_parse 25 = .ok (.putfield 78, 3) := fo_dd DX7_parse_0 15 rfl
theorem dX7_parse_28 : decode cX7_parse 28 = .ok (.aload_n 0, 1) := fo_dd DX7_parse_0 16 rfl
theorem dX7_parse_29 : decode cX7_parse 29 = .ok (.iconst 0, 1) := fo_dd DX7_parse_0 17 rfl
theorem dX7_parse_30 : decode cX7_parse 30 = .ok (.putfield 81, 3) := fo_dd DX7_parse_0 18 rfl
theorem dX7_parse_33 : decode cX7_parse 33 = .ok (.aload_n 0, 1) := fo_dd DX7_parse_0 19 rfl
theorem dX7_parse_34 : decode cX7_parse 34 = .ok (.invokevirtual 262, 3) := fo_dd DX7_parse_0 20 rfl
theorem dX7_parse_37 : decode cX7_parse 37 = .ok (.aload_n 0, 1) := fo_dd DX7_parse_0 21 rfl
theorem dX7_parse_38 : decode cX7_parse 38 = .ok (.invokevirtual 237, 3) := fo_dd DX7_parse_0 22 rfl
theorem dX7_parse_41 : decode cX7_parse 41 = .ok (.bipush 59, 2) := fo_dd DX7_parse_0 23 rfl
theorem dX7_parse_43 : decode cX7_parse 43 = .ok (.if_icmp .ne 20, 3) := fo_dd DX7_parse_0 24 rfl
theorem dX7_parse_46 : decode cX7_parse 46 = .ok (.aload_n 0, 1) := fo_dd DX7_parse_0 25 rfl
theorem dX7_parse_47 : decode cX7_parse 47 = .ok (.dup, 1) := fo_dd DX7_parse_0 26 rfl
theorem dX7_parse_48 : decode cX7_parse 48 = .ok (.getfield 72, 3) := fo_dd DX7_parse_0 27 rfl
theorem dX7_parse_51 : decode cX7_parse 51 = .ok (.iconst 1, 1) := fo_dd DX7_parse_0 28 rfl
theorem dX7_parse_52 : decode cX7_parse 52 = .ok (.iadd, 1) := fo_dd DX7_parse_0 29 rfl
theorem dX7_parse_53 : decode cX7_parse 53 = .ok (.putfield 72, 3) := fo_dd DX7_parse_0 30 rfl
theorem dX7_parse_56 : decode cX7_parse 56 = .ok (.aload_n 0, 1) := fo_dd DX7_parse_0 31 rfl
theorem dX7_parse_57 : decode cX7_parse 57 = .ok (.invokevirtual 262, 3) := fo_dd DX7_parse_0 32 rfl
theorem dX7_parse_60 : decode cX7_parse 60 = .ok (.goto (-23), 3) := fo_dd DX7_parse_0 33 rfl
theorem dX7_parse_63 : decode cX7_parse 63 = .ok (.aload_n 0, 1) := fo_dd DX7_parse_0 34 rfl
theorem dX7_parse_64 : decode cX7_parse 64 = .ok (.dup, 1) := fo_dd DX7_parse_0 35 rfl
theorem dX7_parse_65 : decode cX7_parse 65 = .ok (.getfield 81, 3) := fo_dd DX7_parse_0 36 rfl
theorem dX7_parse_68 : decode cX7_parse 68 = .ok (.aload_n 0, 1) := fo_dd DX7_parse_0 37 rfl
theorem dX7_parse_69 : decode cX7_parse 69 = .ok (.getfield 72, 3) := fo_dd DX7_parse_0 38 rfl
theorem dX7_parse_72 : decode cX7_parse 72 = .ok (.aload_n 0, 1) := fo_dd DX7_parse_0 39 rfl
theorem dX7_parse_73 : decode cX7_parse 73 = .ok (.getfield 69, 3) := fo_dd DX7_parse_0 40 rfl
theorem dX7_parse_76 : decode cX7_parse 76 = .ok (.if_icmp .ge 7, 3) := fo_dd DX7_parse_0 41 rfl
theorem dX7_parse_79 : decode cX7_parse 79 = .ok (.iconst 1, 1) := fo_dd DX7_parse_0 42 rfl
theorem dX7_parse_80 : decode cX7_parse 80 = .ok (.goto 4, 3) := fo_dd DX7_parse_0 43 rfl
theorem dX7_parse_83 : decode cX7_parse 83 = .ok (.iconst 0, 1) := fo_dd DX7_parse_0 44 rfl
theorem dX7_parse_84 : decode cX7_parse 84 = .ok (.ior, 1) := fo_dd DX7_parse_0 45 rfl
theorem dX7_parse_85 : decode cX7_parse 85 = .ok (.putfield 81, 3) := fo_dd DX7_parse_0 46 rfl
theorem dX7_parse_88 : decode cX7_parse 88 = .ok (.return_, 1) := fo_dd DX7_parse_0 47 rfl
theorem DX7_cannot_0 : fo_dl cX7_cannot [(0, .aload_n 0, 1), (1, .getfield 54, 3), (4, .iload_n 1, 1), (5, .iaload, 1), (6, .istore_n 2, 1), (7, .iconst 0, 1), (8, .istore_n 3, 1), (9, .aload_n 0, 1), (10, .getfield 51, 3), (13, .iload_n 1, 1), (14, .iaload, 1), (15, .tableswitch 142 0 2 #[25, 55, 122], 25), (40, .aload_n 0, 1), (41, .iload_n 2, 1), (42, .aload_n 0, 1), (43, .getfield 57, 3), (46, .iload_n 1, 1), (47, .iaload, 1), (48, .invokevirtual 107, 3), (51, .ifCond .le 5, 3), (54, .iconst 1, 1), (55, .ireturn, 1), (56, .aload_n 0, 1), (57, .iload_n 2, 1), (58, .aload_n 0, 1), (59, .getfield 57, 3), (62, .iload_n 1, 1), (63, .iaload, 1), (64, .invokevirtual 114, 3), (67, .istore_n 3, 1), (68, .iconst 0, 1), (69, .ireturn, 1), (70, .iload_n 1, 1), (71, .ifCond .ne 7, 3), (74, .iconst 0, 1), (75, .goto 11, 3), (78, .aload_n 0, 1), (79, .getfield 60, 3), (82, .iload_n 1, 1), (83, .iconst 1, 1), (84, .isub, 1), (85, .iaload, 1), (86, .istore 4, 2), (88, .iload 4, 2), (90, .aload_n 0, 1), (91, .getfield 60, 3), (94, .iload_n 1, 1), (95, .iaload, 1), (96, .if_icmp .ge 39, 3), (99, .aload_n 0, 1), (100, .iload_n 2, 1), (101, .aload_n 0, 1), (102, .getfield 63, 3), (105, .iload 4, 2), (107, .iaload, 1), (108, .invokevirtual 123, 3), (111, .ifCond .le 5, 3), (114, .iconst 1, 1), (115, .ireturn, 1), (116, .aload_n 0, 1), (117, .iload_n 2, 1), (118, .aload_n 0, 1), (119, .getfield 63, 3), (122, .iload 4, 2)] := by decide +kernel
theorem dX7_cannot_0 : decode cX7_cannot 0 = .ok (.aload_n 0, 1) := fo_dd DX7_cannot_0 0 rfl
theorem dX7_cannot_1 : decode cX7_cannot 1 = .ok (.getfield 54, 3) := fo_dd DX7_cannot_0 1 rfl
theorem dX7_cannot_4 : decode cX7_cannot 4 = .ok (.iload_n 1, 1) := fo_dd DX7_cannot_0 2 rfl
theorem dX7_cannot_5 : decode cX7_cannot 5 = .ok (.iaload, 1) := fo_dd DX7_cannot_0 3 rfl
theorem dX7_cannot_6 : decode cX7_cannot 6 = .ok (.istore_n 2, 1) := fo_dd DX7_cannot_0 4 rfl
theorem dX7_cannot_7 : decode cX7_cannot 7 = .ok (.iconst 0, 1) := fo_dd DX7_cannot_0 5 rfl
theorem dX7_cannot_8 : decode cX7_cannot 8 = .ok (.istore_n 3, 1) := fo_dd DX7_cannot_0 6 rfl
theorem dX7_cannot_9 : decode cX7_cannot 9 = .ok (.aload_n 0, 1) := fo_dd DX7_cannot_0 7 rfl
theorem dX7_cannot_10 : decode cX7_cannot 10 = .ok (.getfield 51, 3) := fo_dd DX7_cannot_0 8 rfl
theorem dX7_cannot_13 : decode cX7_cannot 13 = .ok (.iload_n 1, 1) := fo_dd DX7_cannot_0 9 rfl
theorem dX7_cannot_14 : decode cX7_cannot 14 = .ok (.iaload, 1) := fo_dd DX7_cannot_0 10 rfl
theorem dX7_cannot_15 : decode cX7_cannot 15 = .ok (.tableswitch 142 0 2 #[25, 55, 122], 25) := fo_dd DX7_cannot_0 11 rfl
theorem dX7_cannot_40 : decode cX7_cannot 40 = .ok (.aload_n 0, 1) := fo_dd DX7_cannot_0 12 rfl
theorem dX7_cannot_41 : decode cX7_cannot 41 = .ok (.iload_n 2, 1) := fo_dd DX7_cannot_0 13 rfl
theorem dX7_cannot_42 : decode cX7_cannot 42 = .ok (.aload_n 0, 1) := fo_dd DX7_cannot_0 14 rfl
theorem dX7_cannot_43 : decode cX7_cannot 43 = .ok (.getfield 57, 3) := fo_dd DX7_cannot_0 15 rfl
theorem dX7_cannot_46 : decode cX7_cannot 46 = .ok (.iload_n 1, 1) := fo_dd DX7_cannot_0 16 rfl
theorem dX7_cannot_47 : decode cX7_cannot 47 = .ok (.iaload, 1) := fo_dd DX7_cannot_0 17 rfl
theorem dX7_cannot_48 : decode cX7_cannot 48 = .ok (.invokevirtual 107, 3) := fo_dd DX7_cannot_0 18 rfl
theorem dX7_cannot_51 : decode cX7_cannot 51 = .ok (.ifCond .le 5, 3) := fo_dd DX7_cannot_0 19 rfl
theorem dX7_cannot_54 : decode cX7_cannot 54 = .ok (.iconst 1, 1) := fo_dd DX7_cannot_0 20 rfl
theorem dX7_cannot_55 : decode cX7_cannot 55 = .ok (.ireturn, 1) := fo_dd DX7_cannot_0 21 rfl
theorem dX7_cannot_56 : decode cX7_cannot 56 = .ok (.aload_n 0, 1) := fo_dd DX7_cannot_0 22 rfl
theorem dX7_cannot_57 : decode cX7_cannot 57 = .ok (.iload_n 2, 1) := fo_dd DX7_cannot_0 23 rfl
theorem dX7_cannot_58 : decode cX7_cannot 58 = .ok (.aload_n 0, 1) := fo_dd DX7_cannot_0 24 rfl
theorem dX7_cannot_59 : decode cX7_cannot 59 = .ok (.getfield 57, 3) := fo_dd DX7_cannot_0 25 rfl
theorem dX7_cannot_62 : decode cX7_cannot 62 = .ok (.iload_n 1, 1) := fo_dd DX7_cannot_0 26 rfl
theorem dX7_cannot_63 : decode cX7_cannot 63 = .ok (.iaload, 1) := fo_dd DX7_cannot_0 27 rfl
theorem dX7_cannot_64 : decode cX7_cannot 64 = .ok (.invokevirtual 114, 3) := fo_dd DX7_cannot_0 28 rfl
theorem dX7_cannot_67 : decode cX7_cannot 67 = .ok (.istore_n 3, 1) := fo_dd DX7_cannot_0 29 rfl
theorem dX7_cannot_68 : decode cX7_cannot 68 = .ok (.iconst 0, 1) := fo_dd DX7_cannot_0 30 rfl
theorem dX7_cannot_69 : decode cX7_cannot 69 = .ok (.ireturn, 1) := fo_dd DX7_cannot_0 31 rfl
theorem dX7_cannot_70 : decode cX7_cannot 70 = .ok (.iload_n 1, 1) := fo_dd DX7_cannot_0 32 rfl
theorem dX7_cannot_71 : decode cX7_cannot 71 = .ok (.ifCond .ne 7, 3) := fo_dd DX7_cannot_0 33 rfl
theorem dX7_cannot_74 : decode cX7_cannot 74 = .ok (.iconst 0, 1) := fo_dd DX7_cannot_0 34 rfl
theorem dX7_cannot_75 : decode cX7_cannot 75 = .ok (.goto 11, 3) := fo_dd DX7_cannot_0 35 rfl
theorem dX7_cannot_78 : decode cX7_cannot 78 = .ok (.aload_n 0, 1) := fo_dd DX7_cannot_0 36 rfl
theorem dX7_cannot_79 : decode cX7_cannot 79 = .ok (.getfield 60, 3) := fo_dd DX7_cannot_0 37 rfl
theorem dX7_cannot_82 : decode cX7_cannot 82 = .ok (.iload_n 1, 1) := fo_dd DX7_cannot_0 38 rfl
theorem dX7_cannot_83 : decode cX7_cannot 83 = .ok (.iconst 1, 1) := fo_dd DX7_cannot_0 39 rfl
theorem dX7_cannot_84 : decode cX7_cannot 84 = .ok (.isub, 1) := fo_dd DX7_cannot_0 40 rfl
theorem dX7_cannot_85 : decode cX7_cannot 85 = .ok (.iaload, 1) := fo_dd DX7_cannot_0 41 rfl
theorem dX7_cannot_86 : decode cX7_cannot 86 = .ok (.istore 4, 2) := fo_dd DX7_cannot_0 42 rfl
theorem dX7_cannot_88 : decode cX7_cannot 88 = .ok (.iload 4, 2) := fo_dd DX7_cannot_0 43 rfl
theorem dX7_cannot_90 : decode cX7_cannot 90 = .ok (.aload_n 0, 1) := fo_dd DX7_cannot_0 44 rfl
theorem dX7_cannot_91 : decode cX7_cannot 91 = .ok (.getfield 60, 3) := fo_dd DX7_cannot_0 45 rfl
theorem dX7_cannot_94 : decode cX7_cannot 94 = .ok (.iload_n 1, 1) := fo_dd DX7_cannot_0 46 rfl
theorem dX7_cannot_95 : decode cX7_cannot 95 = .ok (.iaload, 1) := fo_dd DX7_cannot_0 47 rfl
theorem dX7_cannot_96 : decode cX7_cannot 96 = .ok (.if_icmp .ge 39, 3) := fo_dd DX7_cannot_0 48 rfl
theorem dX7_cannot_99 : decode cX7_cannot 99 = .ok (.aload_n 0, 1) := fo_dd DX7_cannot_0 49 rfl
theorem dX7_cannot_100 : decode cX7_cannot 100 = .ok (.iload_n 2, 1) := fo_dd DX7_cannot_0 50 rfl
theorem dX7_cannot_101 : decode cX7_cannot 101 = .ok (.aload_n 0, 1) := fo_dd DX7_cannot_0 51 rfl
theorem dX7_cannot_102 : decode cX7_cannot 102 = .ok (.getfield 63, 3) := fo_dd DX7_cannot_0 52 rfl
theorem dX7_cannot_105 : decode cX7_cannot 105 = .ok (.iload 4, 2) := fo_dd DX7_cannot_0 53 rfl
theorem dX7_cannot_107 : decode cX7_cannot 107 = .ok (.iaload, 1) := fo_dd DX7_cannot_0 54 rfl
theorem dX7_cannot_108 : decode cX7_cannot 108 = .ok (.invokevirtual 123, 3) := fo_dd DX7_cannot_0 55 rfl
theorem dX7_cannot_111 : decode cX7_cannot 111 = .ok (.ifCond .le 5, 3) := fo_dd DX7_cannot_0 56 rfl
theorem dX7_cannot_114 : decode cX7_cannot 114 = .ok (.iconst 1, 1) := fo_dd DX7_cannot_0 57 rfl
theorem dX7_cannot_115 : decode cX7_cannot 115 = .ok (.ireturn, 1) := fo_dd DX7_cannot_0 58 rfl
theorem dX7_cannot_116 : decode cX7_cannot 116 = .ok (.aload_n 0, 1) := fo_dd DX7_cannot_0 59 rfl
theorem dX7_cannot_117 : decode cX7_cannot 117 = .ok (.iload_n 2, 1) := fo_dd DX7_cannot_0 60 rfl
theorem dX7_cannot_118 : decode cX7_cannot 118 = .ok (.aload_n 0, 1) := fo_dd DX7_cannot_0 61 rfl
theorem dX7_cannot_119 : decode cX7_cannot 119 = .ok (.getfield 63, 3) := fo_dd DX7_cannot_0 62 rfl
theorem dX7_cannot_122 : decode cX7_cannot 122 = .ok (.iload 4, 2) := fo_dd DX7_cannot_0 63 rfl
theorem DX7_cannot_1 : fo_dl cX7_cannot [(124, .iaload, 1), (125, .invokevirtual 126, 3), (128, .istore_n 3, 1), (129, .iinc 4 1, 3), (132, .goto (-44), 3), (135, .iconst 0, 1), (136, .ireturn, 1), (137, .iload_n 2, 1), (138, .iconst 1, 1), (139, .bipush 9, 2), (141, .invokestatic 88, 3), (144, .ifCond .ne 5, 3), (147, .iconst 1, 1), (148, .ireturn, 1), (149, .aload_n 0, 1), (150, .iload_n 2, 1), (151, .invokevirtual 129, 3), (154, .istore_n 3, 1), (155, .iconst 0, 1), (156, .ireturn, 1), (157, .iload_n 2, 1), (158, .invokestatic 120, 3), (161, .ifCond .ne 5, 3), (164, .iconst 1, 1), (165, .ireturn, 1), (166, .aload_n 0, 1), (167, .iload_n 2, 1), (168, .invokevirtual 132, 3), (171, .istore_n 3, 1), (172, .iconst 0, 1), (173, .ireturn, 1)] := by decide +kernel
theorem dX7_cannot_124 : decode cX7_cannot 124 = .ok (.iaload, 1) := fo_dd DX7_cannot_1 0 rfl
theorem dX7_cannot_125 : decode cX7_cannot 125 = .ok (.invokevirtual 126, 3) := fo_dd DX7_cannot_1 1 rfl
theorem dX7_cannot_128 : decode cX7_cannot 128 = .ok (.istore_n 3, 1) := fo_dd DX7_cannot_1 2 rfl
theorem dX7_cannot_129 : decode cX7_cannot 129 = .ok (.iinc 4 1, 3) := fo_dd DX7_cannot_1 3 rfl
theorem dX7_cannot_132 : decode cX7_cannot 132 = .ok (.goto (-44), 3) := fo_dd DX7_cannot_1 4 rfl
theorem dX7_cannot_135 : decode cX7_cannot 135 = .ok (.iconst 0, 1) := fo_dd DX7_cannot_1 5 rfl
theorem dX7_cannot_136 : decode cX7_cannot 136 = .ok (.ireturn, 1) := fo_dd DX7_cannot_1 6 rfl
theorem dX7_cannot_137 : decode cX7_cannot 137 = .ok (.iload_n 2, 1) := fo_dd DX7_cannot_1 7 rfl
theorem dX7_cannot_138 : decode cX7_cannot 138 = .ok (.iconst 1, 1) := fo_dd DX7_cannot_1 8 rfl
theorem dX7_cannot_139 : decode cX7_cannot 139 = .ok (.bipush 9, 2) := fo_dd DX7_cannot_1 9 rfl
theorem dX7_cannot_141 : decode cX7_cannot 141 = .ok (.invokestatic 88, 3) := fo_dd DX7_cannot_1 10 rfl
theorem dX7_cannot_144 : decode cX7_cannot 144 = .ok (.ifCond .ne 5, 3) := fo_dd DX7_cannot_1 11 rfl
theorem dX7_cannot_147 : decode cX7_cannot 147 = .ok (.iconst 1, 1) := fo_dd DX7_cannot_1 12 rfl
theorem dX7_cannot_148 : decode cX7_cannot 148 = .ok (.ireturn, 1) := fo_dd DX7_cannot_1 13 rfl
theorem dX7_cannot_149 : decode cX7_cannot 149 = .ok (.aload_n 0, 1) := fo_dd DX7_cannot_1 14 rfl
theorem dX7_cannot_150 : decode cX7_cannot 150 = .ok (.iload_n 2, 1) := fo_dd DX7_cannot_1 15 rfl
theorem dX7_cannot_151 : decode cX7_cannot 151 = .ok (.invokevirtual 129, 3) := fo_dd DX7_cannot_1 16 rfl
theorem dX7_cannot_154 : decode cX7_cannot 154 = .ok (.istore_n 3, 1) := fo_dd DX7_cannot_1 17 rfl
theorem dX7_cannot_155 : decode cX7_cannot 155 = .ok (.iconst 0, 1) := fo_dd DX7_cannot_1 18 rfl
theorem dX7_cannot_156 : decode cX7_cannot 156 = .ok (.ireturn, 1) := fo_dd DX7_cannot_1 19 rfl
theorem dX7_cannot_157 : decode cX7_cannot 157 = .ok (.iload_n 2, 1) := fo_dd DX7_cannot_1 20 rfl
theorem dX7_cannot_158 : decode cX7_cannot 158 = .ok (.invokestatic 120, 3) := fo_dd DX7_cannot_1 21 rfl
theorem dX7_cannot_161 : decode cX7_cannot 161 = .ok (.ifCond .ne 5, 3) := fo_dd DX7_cannot_1 22 rfl
theorem dX7_cannot_164 : decode cX7_cannot 164 = .ok (.iconst 1, 1) := fo_dd DX7_cannot_1 23 rfl
theorem dX7_cannot_165 : decode cX7_cannot 165 = .ok (.ireturn, 1) := fo_dd DX7_cannot_1 24 rfl
theorem dX7_cannot_166 : decode cX7_cannot 166 = .ok (.aload_n 0, 1) := fo_dd DX7_cannot_1 25 rfl
theorem dX7_cannot_167 : decode cX7_cannot 167 = .ok (.iload_n 2, 1) := fo_dd DX7_cannot_1 26 rfl
theorem dX7_cannot_168 : decode cX7_cannot 168 = .ok (.invokevirtual 132, 3) := fo_dd DX7_cannot_1 27 rfl
theorem dX7_cannot_171 : decode cX7_cannot 171 = .ok (.istore_n 3, 1) := fo_dd DX7_cannot_1 28 rfl
theorem dX7_cannot_172 : decode cX7_cannot 172 = .ok (.iconst 0, 1) := fo_dd DX7_cannot_1 29 rfl
theorem dX7_cannot_173 : decode cX7_cannot 173 = .ok (.ireturn, 1) := fo_dd DX7_cannot_1 30 rfl
theorem DX7_run_0 : fo_dl cX7_run [(0, .aload_n 0, 1), (1, .invokevirtual 104, 3), (4, .aload_n 0, 1), (5, .invokevirtual 265, 3), (8, .aload_n 0, 1), (9, .getfield 81, 3), (12, .ifCond .eq 17, 3), (15, .aload_n 0, 1), (16, .aload_n 0, 1), (17, .getfield 72, 3), (20, .putfield 32, 3), (23, .aload_n 0, 1), (24, .iconst 1, 1), (25, .invokevirtual 111, 3), (28, .ireturn, 1), (29, .iconst 0, 1), (30, .istore_n 1, 1), (31, .iload_n 1, 1), (32, .aload_n 0, 1), (33, .getfield 75, 3), (36, .if_icmp .ge 44, 3), (39, .aload_n 0, 1), (40, .iload_n 1, 1), (41, .invokevirtual 268, 3), (44, .ifCond .ne 6, 3), (47, .goto 27, 3), (50, .aload_n 0, 1), (51, .getfield 13, 3), (54, .iconst 0, 1), (55, .aload_n 0, 1), (56, .getfield 7, 3), (59, .iconst 0, 1), (60, .invokestatic 84, 3), (63, .aload_n 0, 1), (64, .iload_n 1, 1), (65, .putfield 35, 3), (68, .aload_n 0, 1), (69, .iconst 2, 1), (70, .invokevirtual 111, 3), (73, .ireturn, 1), (74, .iinc 1 1, 3), (77, .goto (-46), 3), (80, .aload_n 0, 1), (81, .aload_n 0, 1), (82, .getfield 75, 3), (85, .invokevirtual 117, 3), (88, .ireturn, 1)] := by decide +kernel
theorem dX7_run_0 : decode cX7_run 0 = .ok (.aload_n 0, 1) := fo_dd DX7_run_0 0 rfl
theorem dX7_run_1 : decode cX7_run 1 = .ok (.invokevirtual 104, 3) := fo_dd DX7_run_0 1 rfl
theorem dX7_run_4 : decode cX7_run 4 = .ok (.aload_n 0, 1) := fo_dd DX7_run_0 2 rfl
theorem dX7_run_5 : decode cX7_run 5 = .ok (.invokevirtual 265, 3) := fo_dd DX7_run_0 3 rfl
theorem dX7_run_8 : decode cX7_run 8 = .ok (.aload_n 0, 1) := fo_dd DX7_run_0 4 rfl
theorem dX7_run_9 : decode cX7_run 9 = .ok (.getfield 81, 3) := fo_dd DX7_run_0 5 rfl
theorem dX7_run_12 : decode cX7_run 12 = .ok (.ifCond .eq 17, 3) := fo_dd DX7_run_0 6 rfl
theorem dX7_run_15 : decode cX7_run 15 = .ok (.aload_n 0, 1) := fo_dd DX7_run_0 7 rfl
theorem dX7_run_16 : decode cX7_run 16 = .ok (.aload_n 0, 1) := fo_dd DX7_run_0 8 rfl
theorem dX7_run_17 : decode cX7_run 17 = .ok (.getfield 72, 3) := fo_dd DX7_run_0 9 rfl
theorem dX7_run_20 : decode cX7_run 20 = .ok (.putfield 32, 3) := fo_dd DX7_run_0 10 rfl
theorem dX7_run_23 : decode cX7_run 23 = .ok (.aload_n 0, 1) := fo_dd DX7_run_0 11 rfl
theorem dX7_run_24 : decode cX7_run 24 = .ok (.iconst 1, 1) := fo_dd DX7_run_0 12 rfl
theorem dX7_run_25 : decode cX7_run 25 = .ok (.invokevirtual 111, 3) := fo_dd DX7_run_0 13 rfl
theorem dX7_run_28 : decode cX7_run 28 = .ok (.ireturn, 1) := fo_dd DX7_run_0 14 rfl
theorem dX7_run_29 : decode cX7_run 29 = .ok (.iconst 0, 1) := fo_dd DX7_run_0 15 rfl
theorem dX7_run_30 : decode cX7_run 30 = .ok (.istore_n 1, 1) := fo_dd DX7_run_0 16 rfl
theorem dX7_run_31 : decode cX7_run 31 = .ok (.iload_n 1, 1) := fo_dd DX7_run_0 17 rfl
theorem dX7_run_32 : decode cX7_run 32 = .ok (.aload_n 0, 1) := fo_dd DX7_run_0 18 rfl
theorem dX7_run_33 : decode cX7_run 33 = .ok (.getfield 75, 3) := fo_dd DX7_run_0 19 rfl
theorem dX7_run_36 : decode cX7_run 36 = .ok (.if_icmp .ge 44, 3) := fo_dd DX7_run_0 20 rfl
theorem dX7_run_39 : decode cX7_run 39 = .ok (.aload_n 0, 1) := fo_dd DX7_run_0 21 rfl
theorem dX7_run_40 : decode cX7_run 40 = .ok (.iload_n 1, 1) := fo_dd DX7_run_0 22 rfl
theorem dX7_run_41 : decode cX7_run 41 = .ok (.invokevirtual 268, 3) := fo_dd DX7_run_0 23 rfl
theorem dX7_run_44 : decode cX7_run 44 = .ok (.ifCond .ne 6, 3) := fo_dd DX7_run_0 24 rfl
theorem dX7_run_47 : decode cX7_run 47 = .ok (.goto 27, 3) := fo_dd DX7_run_0 25 rfl
theorem dX7_run_50 : decode cX7_run 50 = .ok (.aload_n 0, 1) := fo_dd DX7_run_0 26 rfl
theorem dX7_run_51 : decode cX7_run 51 = .ok (.getfield 13, 3) := fo_dd DX7_run_0 27 rfl
theorem dX7_run_54 : decode cX7_run 54 = .ok (.iconst 0, 1) := fo_dd DX7_run_0 28 rfl
theorem dX7_run_55 : decode cX7_run 55 = .ok (.aload_n 0, 1) := fo_dd DX7_run_0 29 rfl
theorem dX7_run_56 : decode cX7_run 56 = .ok (.getfield 7, 3) := fo_dd DX7_run_0 30 rfl
theorem dX7_run_59 : decode cX7_run 59 = .ok (.iconst 0, 1) := fo_dd DX7_run_0 31 rfl
theorem dX7_run_60 : decode cX7_run 60 = .ok (.invokestatic 84, 3) := fo_dd DX7_run_0 32 rfl
theorem dX7_run_63 : decode cX7_run 63 = .ok (.aload_n 0, 1) := fo_dd DX7_run_0 33 rfl
theorem dX7_run_64 : decode cX7_run 64 = .ok (.iload_n 1, 1) := fo_dd DX7_run_0 34 rfl
theorem dX7_run_65 : decode cX7_run 65 = .ok (.putfield 35, 3) := fo_dd DX7_run_0 35 rfl
theorem dX7_run_68 : decode cX7_run 68 = .ok (.aload_n 0, 1) := fo_dd DX7_run_0 36 rfl
theorem dX7_run_69 : decode cX7_run 69 = .ok (.iconst 2, 1) := fo_dd DX7_run_0 37 rfl
theorem dX7_run_70 : decode cX7_run 70 = .ok (.invokevirtual 111, 3) := fo_dd DX7_run_0 38 rfl
theorem dX7_run_73 : decode cX7_run 73 = .ok (.ireturn, 1) := fo_dd DX7_run_0 39 rfl
theorem dX7_run_74 : decode cX7_run 74 = .ok (.iinc 1 1, 3) := fo_dd DX7_run_0 40 rfl
theorem dX7_run_77 : decode cX7_run 77 = .ok (.goto (-46), 3) := fo_dd DX7_run_0 41 rfl
theorem dX7_run_80 : decode cX7_run 80 = .ok (.aload_n 0, 1) := fo_dd DX7_run_0 42 rfl
theorem dX7_run_81 : decode cX7_run 81 = .ok (.aload_n 0, 1) := fo_dd DX7_run_0 43 rfl
theorem dX7_run_82 : decode cX7_run 82 = .ok (.getfield 75, 3) := fo_dd DX7_run_0 44 rfl
theorem dX7_run_85 : decode cX7_run 85 = .ok (.invokevirtual 117, 3) := fo_dd DX7_run_0 45 rfl
theorem dX7_run_88 : decode cX7_run 88 = .ok (.ireturn, 1) := fo_dd DX7_run_0 46 rfl
theorem DX7_present_0 : fo_dl cX7_present [(0, .aload_n 0, 1), (1, .iload_n 1, 1), (2, .ifCond .lt 7, 3), (5, .iconst 1, 1), (6, .goto 4, 3), (9, .iconst 0, 1), (10, .invokevirtual 135, 3), (13, .ifCond .le 7, 3), (16, .iconst 0, 1), (17, .goto 4, 3), (20, .iload_n 1, 1), (21, .ireturn, 1)] := by decide +kernel
theorem dX7_present_0 : decode cX7_present 0 = .ok (.aload_n 0, 1) := fo_dd DX7_present_0 0 rfl
theorem dX7_present_1 : decode cX7_present 1 = .ok (.iload_n 1, 1) := fo_dd DX7_present_0 1 rfl
theorem dX7_present_2 : decode cX7_present 2 = .ok (.ifCond .lt 7, 3) := fo_dd DX7_present_0 2 rfl
theorem dX7_present_5 : decode cX7_present 5 = .ok (.iconst 1, 1) := fo_dd DX7_present_0 3 rfl
theorem dX7_present_6 : decode cX7_present 6 = .ok (.goto 4, 3) := fo_dd DX7_present_0 4 rfl
theorem dX7_present_9 : decode cX7_present 9 = .ok (.iconst 0, 1) := fo_dd DX7_present_0 5 rfl
theorem dX7_present_10 : decode cX7_present 10 = .ok (.invokevirtual 135, 3) := fo_dd DX7_present_0 6 rfl
theorem dX7_present_13 : decode cX7_present 13 = .ok (.ifCond .le 7, 3) := fo_dd DX7_present_0 7 rfl
theorem dX7_present_16 : decode cX7_present 16 = .ok (.iconst 0, 1) := fo_dd DX7_present_0 8 rfl
theorem dX7_present_17 : decode cX7_present 17 = .ok (.goto 4, 3) := fo_dd DX7_present_0 9 rfl
theorem dX7_present_20 : decode cX7_present 20 = .ok (.iload_n 1, 1) := fo_dd DX7_present_0 10 rfl
theorem dX7_present_21 : decode cX7_present 21 = .ok (.ireturn, 1) := fo_dd DX7_present_0 11 rfl
theorem DX7_errorPosition_0 : fo_dl cX7_errorPosition [(0, .aload_n 0, 1), (1, .aload_n 0, 1), (2, .getfield 32, 3), (5, .invokevirtual 271, 3), (8, .ireturn, 1)] := by decide +kernel
theorem dX7_errorPosition_0 : decode cX7_errorPosition 0 = .ok (.aload_n 0, 1) := fo_dd DX7_errorPosition_0 0 rfl
theorem dX7_errorPosition_1 : decode cX7_errorPosition 1 = .ok (.aload_n 0, 1) := fo_dd DX7_errorPosition_0 1 rfl
theorem dX7_errorPosition_2 : decode cX7_errorPosition 2 = .ok (.getfield 32, 3) := fo_dd DX7_errorPosition_0 2 rfl
theorem dX7_errorPosition_5 : decode cX7_errorPosition 5 = .ok (.invokevirtual 271, 3) := fo_dd DX7_errorPosition_0 3 rfl
theorem dX7_errorPosition_8 : decode cX7_errorPosition 8 = .ok (.ireturn, 1) := fo_dd DX7_errorPosition_0 4 rfl
theorem DX7_failedCommand_0 : fo_dl cX7_failedCommand [(0, .aload_n 0, 1), (1, .aload_n 0, 1), (2, .getfield 35, 3), (5, .invokevirtual 271, 3), (8, .ireturn, 1)] := by decide +kernel
theorem dX7_failedCommand_0 : decode cX7_failedCommand 0 = .ok (.aload_n 0, 1) := fo_dd DX7_failedCommand_0 0 rfl
theorem dX7_failedCommand_1 : decode cX7_failedCommand 1 = .ok (.aload_n 0, 1) := fo_dd DX7_failedCommand_0 1 rfl
theorem dX7_failedCommand_2 : decode cX7_failedCommand 2 = .ok (.getfield 35, 3) := fo_dd DX7_failedCommand_0 2 rfl
theorem dX7_failedCommand_5 : decode cX7_failedCommand 5 = .ok (.invokevirtual 271, 3) := fo_dd DX7_failedCommand_0 3 rfl
theorem dX7_failedCommand_8 : decode cX7_failedCommand 8 = .ok (.ireturn, 1) := fo_dd DX7_failedCommand_0 4 rfl
theorem DX7_undo_0 : fo_dl cX7_undo [(0, .aload_n 0, 1), (1, .aload_n 0, 1), (2, .getfield 29, 3), (5, .ifCond .le 7, 3), (8, .iconst 1, 1), (9, .goto 4, 3), (12, .iconst 0, 1), (13, .invokevirtual 135, 3), (16, .ifCond .le 5, 3), (19, .iconst 0, 1), (20, .ireturn, 1), (21, .aload_n 0, 1), (22, .dup, 1), (23, .getfield 29, 3), (26, .iconst 1, 1), (27, .isub, 1), (28, .putfield 29, 3), (31, .aload_n 0, 1), (32, .getfield 19, 3), (35, .sipush 150, 3), (38, .aload_n 0, 1), (39, .getfield 29, 3), (42, .imul, 1), (43, .aload_n 0, 1), (44, .getfield 7, 3), (47, .iconst 0, 1), (48, .invokestatic 84, 3), (51, .aload_n 0, 1), (52, .getfield 29, 3), (55, .ireturn, 1)] := by decide +kernel
theorem dX7_undo_0 : decode cX7_undo 0 = .ok (.aload_n 0, 1) := fo_dd DX7_undo_0 0 rfl
theorem dX7_undo_1 : decode cX7_undo 1 = .ok (.aload_n 0, 1) := fo_dd DX7_undo_0 1 rfl
theorem dX7_undo_2 : decode cX7_undo 2 = .ok (.getfield 29, 3) := fo_dd DX7_undo_0 2 rfl
theorem dX7_undo_5 : decode cX7_undo 5 = .ok (.ifCond .le 7, 3) := fo_dd DX7_undo_0 3 rfl
theorem dX7_undo_8 : decode cX7_undo 8 = .ok (.iconst 1, 1) := fo_dd DX7_undo_0 4 rfl
theorem dX7_undo_9 : decode cX7_undo 9 = .ok (.goto 4, 3) := fo_dd DX7_undo_0 5 rfl
theorem dX7_undo_12 : decode cX7_undo 12 = .ok (.iconst 0, 1) := fo_dd DX7_undo_0 6 rfl
theorem dX7_undo_13 : decode cX7_undo 13 = .ok (.invokevirtual 135, 3) := fo_dd DX7_undo_0 7 rfl
theorem dX7_undo_16 : decode cX7_undo 16 = .ok (.ifCond .le 5, 3) := fo_dd DX7_undo_0 8 rfl
theorem dX7_undo_19 : decode cX7_undo 19 = .ok (.iconst 0, 1) := fo_dd DX7_undo_0 9 rfl
theorem dX7_undo_20 : decode cX7_undo 20 = .ok (.ireturn, 1) := fo_dd DX7_undo_0 10 rfl
theorem dX7_undo_21 : decode cX7_undo 21 = .ok (.aload_n 0, 1) := fo_dd DX7_undo_0 11 rfl
theorem dX7_undo_22 : decode cX7_undo 22 = .ok (.dup, 1) := fo_dd DX7_undo_0 12 rfl
theorem dX7_undo_23 : decode cX7_undo 23 = .ok (.getfield 29, 3) := fo_dd DX7_undo_0 13 rfl
theorem dX7_undo_26 : decode cX7_undo 26 = .ok (.iconst 1, 1) := fo_dd DX7_undo_0 14 rfl
theorem dX7_undo_27 : decode cX7_undo 27 = .ok (.isub, 1) := fo_dd DX7_undo_0 15 rfl
theorem dX7_undo_28 : decode cX7_undo 28 = .ok (.putfield 29, 3) := fo_dd DX7_undo_0 16 rfl
theorem dX7_undo_31 : decode cX7_undo 31 = .ok (.aload_n 0, 1) := fo_dd DX7_undo_0 17 rfl
theorem dX7_undo_32 : decode cX7_undo 32 = .ok (.getfield 19, 3) := fo_dd DX7_undo_0 18 rfl
theorem dX7_undo_35 : decode cX7_undo 35 = .ok (.sipush 150, 3) := fo_dd DX7_undo_0 19 rfl
theorem dX7_undo_38 : decode cX7_undo 38 = .ok (.aload_n 0, 1) := fo_dd DX7_undo_0 20 rfl
theorem dX7_undo_39 : decode cX7_undo 39 = .ok (.getfield 29, 3) := fo_dd DX7_undo_0 21 rfl
theorem dX7_undo_42 : decode cX7_undo 42 = .ok (.imul, 1) := fo_dd DX7_undo_0 22 rfl
theorem dX7_undo_43 : decode cX7_undo 43 = .ok (.aload_n 0, 1) := fo_dd DX7_undo_0 23 rfl
theorem dX7_undo_44 : decode cX7_undo 44 = .ok (.getfield 7, 3) := fo_dd DX7_undo_0 24 rfl
theorem dX7_undo_47 : decode cX7_undo 47 = .ok (.iconst 0, 1) := fo_dd DX7_undo_0 25 rfl
theorem dX7_undo_48 : decode cX7_undo 48 = .ok (.invokestatic 84, 3) := fo_dd DX7_undo_0 26 rfl
theorem dX7_undo_51 : decode cX7_undo 51 = .ok (.aload_n 0, 1) := fo_dd DX7_undo_0 27 rfl
theorem dX7_undo_52 : decode cX7_undo 52 = .ok (.getfield 29, 3) := fo_dd DX7_undo_0 28 rfl
theorem dX7_undo_55 : decode cX7_undo 55 = .ok (.ireturn, 1) := fo_dd DX7_undo_0 29 rfl
theorem DX7_save_0 : fo_dl cX7_save [(0, .aload_n 0, 1), (1, .iconst 0, 1), (2, .putfield 25, 3), (5, .aload_n 0, 1), (6, .getfield 7, 3), (9, .iconst 0, 1), (10, .aload_n 0, 1), (11, .getfield 16, 3), (14, .iconst 0, 1), (15, .invokestatic 84, 3), (18, .aload_n 0, 1), (19, .iconst 1, 1), (20, .putfield 38, 3), (23, .aload_n 0, 1), (24, .getfield 7, 3), (27, .iconst 0, 1), (28, .iaload, 1), (29, .ireturn, 1)] := by decide +kernel
theorem dX7_save_0 : decode cX7_save 0 = .ok (.aload_n 0, 1) := fo_dd DX7_save_0 0 rfl
theorem dX7_save_1 : decode cX7_save 1 = .ok (.iconst 0, 1) := fo_dd DX7_save_0 1 rfl
theorem dX7_save_2 : decode cX7_save 2 = .ok (.putfield 25, 3) := fo_dd DX7_save_0 2 rfl
theorem dX7_save_5 : decode cX7_save 5 = .ok (.aload_n 0, 1) := fo_dd DX7_save_0 3 rfl
theorem dX7_save_6 : decode cX7_save 6 = .ok (.getfield 7, 3) := fo_dd DX7_save_0 4 rfl
theorem dX7_save_9 : decode cX7_save 9 = .ok (.iconst 0, 1) := fo_dd DX7_save_0 5 rfl
theorem dX7_save_10 : decode cX7_save 10 = .ok (.aload_n 0, 1) := fo_dd DX7_save_0 6 rfl
theorem dX7_save_11 : decode cX7_save 11 = .ok (.getfield 16, 3) := fo_dd DX7_save_0 7 rfl
theorem dX7_save_14 : decode cX7_save 14 = .ok (.iconst 0, 1) := fo_dd DX7_save_0 8 rfl
theorem dX7_save_15 : decode cX7_save 15 = .ok (.invokestatic 84, 3) := fo_dd DX7_save_0 9 rfl
theorem dX7_save_18 : decode cX7_save 18 = .ok (.aload_n 0, 1) := fo_dd DX7_save_0 10 rfl
theorem dX7_save_19 : decode cX7_save 19 = .ok (.iconst 1, 1) := fo_dd DX7_save_0 11 rfl
theorem dX7_save_20 : decode cX7_save 20 = .ok (.putfield 38, 3) := fo_dd DX7_save_0 12 rfl
theorem dX7_save_23 : decode cX7_save 23 = .ok (.aload_n 0, 1) := fo_dd DX7_save_0 13 rfl
theorem dX7_save_24 : decode cX7_save 24 = .ok (.getfield 7, 3) := fo_dd DX7_save_0 14 rfl
theorem dX7_save_27 : decode cX7_save 27 = .ok (.iconst 0, 1) := fo_dd DX7_save_0 15 rfl
theorem dX7_save_28 : decode cX7_save 28 = .ok (.iaload, 1) := fo_dd DX7_save_0 16 rfl
theorem dX7_save_29 : decode cX7_save 29 = .ok (.ireturn, 1) := fo_dd DX7_save_0 17 rfl
theorem DX7_restore_0 : fo_dl cX7_restore [(0, .aload_n 0, 1), (1, .aload_n 0, 1), (2, .getfield 38, 3), (5, .invokevirtual 135, 3), (8, .ifCond .le 5, 3), (11, .iconst 0, 1), (12, .ireturn, 1), (13, .aload_n 0, 1), (14, .getfield 16, 3), (17, .iconst 0, 1), (18, .aload_n 0, 1), (19, .getfield 7, 3), (22, .iconst 0, 1), (23, .invokestatic 84, 3), (26, .aload_n 0, 1), (27, .iconst 0, 1), (28, .putfield 29, 3), (31, .aload_n 0, 1), (32, .getfield 7, 3), (35, .iconst 0, 1), (36, .iaload, 1), (37, .ireturn, 1)] := by decide +kernel
theorem dX7_restore_0 : decode cX7_restore 0 = .ok (.aload_n 0, 1) := fo_dd DX7_restore_0 0 rfl
theorem dX7_restore_1 : decode cX7_restore 1 = .ok (.aload_n 0, 1) := fo_dd DX7_restore_0 1 rfl
theorem dX7_restore_2 : decode cX7_restore 2 = .ok (.getfield 38, 3) := fo_dd DX7_restore_0 2 rfl
theorem dX7_restore_5 : decode cX7_restore 5 = .ok (.invokevirtual 135, 3) := fo_dd DX7_restore_0 3 rfl
theorem dX7_restore_8 : decode cX7_restore 8 = .ok (.ifCond .le 5, 3) := fo_dd DX7_restore_0 4 rfl
theorem dX7_restore_11 : decode cX7_restore 11 = .ok (.iconst 0, 1) := fo_dd DX7_restore_0 5 rfl
theorem dX7_restore_12 : decode cX7_restore 12 = .ok (.ireturn, 1) := fo_dd DX7_restore_0 6 rfl
theorem dX7_restore_13 : decode cX7_restore 13 = .ok (.aload_n 0, 1) := fo_dd DX7_restore_0 7 rfl
theorem dX7_restore_14 : decode cX7_restore 14 = .ok (.getfield 16, 3) := fo_dd DX7_restore_0 8 rfl
theorem dX7_restore_17 : decode cX7_restore 17 = .ok (.iconst 0, 1) := fo_dd DX7_restore_0 9 rfl
theorem dX7_restore_18 : decode cX7_restore 18 = .ok (.aload_n 0, 1) := fo_dd DX7_restore_0 10 rfl
theorem dX7_restore_19 : decode cX7_restore 19 = .ok (.getfield 7, 3) := fo_dd DX7_restore_0 11 rfl
theorem dX7_restore_22 : decode cX7_restore 22 = .ok (.iconst 0, 1) := fo_dd DX7_restore_0 12 rfl
theorem dX7_restore_23 : decode cX7_restore 23 = .ok (.invokestatic 84, 3) := fo_dd DX7_restore_0 13 rfl
theorem dX7_restore_26 : decode cX7_restore 26 = .ok (.aload_n 0, 1) := fo_dd DX7_restore_0 14 rfl
theorem dX7_restore_27 : decode cX7_restore 27 = .ok (.iconst 0, 1) := fo_dd DX7_restore_0 15 rfl
theorem dX7_restore_28 : decode cX7_restore 28 = .ok (.putfield 29, 3) := fo_dd DX7_restore_0 16 rfl
theorem dX7_restore_31 : decode cX7_restore 31 = .ok (.aload_n 0, 1) := fo_dd DX7_restore_0 17 rfl
theorem dX7_restore_32 : decode cX7_restore 32 = .ok (.getfield 7, 3) := fo_dd DX7_restore_0 18 rfl
theorem dX7_restore_35 : decode cX7_restore 35 = .ok (.iconst 0, 1) := fo_dd DX7_restore_0 19 rfl
theorem dX7_restore_36 : decode cX7_restore 36 = .ok (.iaload, 1) := fo_dd DX7_restore_0 20 rfl
theorem dX7_restore_37 : decode cX7_restore 37 = .ok (.ireturn, 1) := fo_dd DX7_restore_0 21 rfl
