abbrev fo_dl (c : ByteArray) (l : List (Nat × Instr × Nat)) : Prop := ∀ q ∈ l, decode c q.1 = .ok (q.2.1, q.2.2)
theorem fo_dd {c : ByteArray} {l : List (Nat × Instr × Nat)} (h : fo_dl c l) (i : Nat) {pc : Nat} {x : Instr} {n : Nat} (hi : l[i]? = some (pc, x, n)) : decode c pc = .ok (x, n) := h (pc, x, n) (List.mem_of_getElem? hi)
theorem DX0_init_0 : fo_dl cX0_init [(0, .aload_n 0, 1), (1, .invokespecial 3, 3), (4, .aload_n 0, 1), (5, .sipush 152, 3), (8, .newarray .char, 2), (10, .putfield 9, 3), (13, .return_, 1)] := by decide +kernel
theorem dX0_init_0 : decode cX0_init 0 = .ok (.aload_n 0, 1) := fo_dd DX0_init_0 0 rfl
theorem dX0_init_1 : decode cX0_init 1 = .ok (.invokespecial 3, 3) := fo_dd DX0_init_0 1 rfl
theorem dX0_init_4 : decode cX0_init 4 = .ok (.aload_n 0, 1) := fo_dd DX0_init_0 2 rfl
theorem dX0_init_5 : decode cX0_init 5 = .ok (.sipush 152, 3) := fo_dd DX0_init_0 3 rfl
theorem dX0_init_8 : decode cX0_init 8 = .ok (.newarray .char, 2) := fo_dd DX0_init_0 4 rfl
theorem dX0_init_10 : decode cX0_init 10 = .ok (.putfield 9, 3) := fo_dd DX0_init_0 5 rfl
theorem dX0_init_13 : decode cX0_init 13 = .ok (.return_, 1) := fo_dd DX0_init_0 6 rfl
theorem DX0_clear_0 : fo_dl cX0_clear [(0, .aload_n 0, 1), (1, .iconst 0, 1), (2, .putfield 15, 3), (5, .return_, 1)] := by decide +kernel
theorem dX0_clear_0 : decode cX0_clear 0 = .ok (.aload_n 0, 1) := fo_dd DX0_clear_0 0 rfl
theorem dX0_clear_1 : decode cX0_clear 1 = .ok (.iconst 0, 1) := fo_dd DX0_clear_0 1 rfl
theorem dX0_clear_2 : decode cX0_clear 2 = .ok (.putfield 15, 3) := fo_dd DX0_clear_0 2 rfl
theorem dX0_clear_5 : decode cX0_clear 5 = .ok (.return_, 1) := fo_dd DX0_clear_0 3 rfl
theorem DX0_put_0 : fo_dl cX0_put [(0, .aload_n 0, 1), (1, .getfield 15, 3), (4, .sipush 152, 3), (7, .if_icmp .lt 4, 3), (10, .return_, 1), (11, .aload_n 0, 1), (12, .getfield 9, 3), (15, .aload_n 0, 1), (16, .getfield 15, 3), (19, .iload_n 1, 1), (20, .castore, 1), (21, .aload_n 0, 1), (22, .dup, 1), (23, .getfield 15, 3), (26, .iconst 1, 1), (27, .iadd, 1), (28, .putfield 15, 3), (31, .return_, 1)] := by decide +kernel
theorem dX0_put_0 : decode cX0_put 0 = .ok (.aload_n 0, 1) := fo_dd DX0_put_0 0 rfl
theorem dX0_put_1 : decode cX0_put 1 = .ok (.getfield 15, 3) := fo_dd DX0_put_0 1 rfl
theorem dX0_put_4 : decode cX0_put 4 = .ok (.sipush 152, 3) := fo_dd DX0_put_0 2 rfl
theorem dX0_put_7 : decode cX0_put 7 = .ok (.if_icmp .lt 4, 3) := fo_dd DX0_put_0 3 rfl
theorem dX0_put_10 : decode cX0_put 10 = .ok (.return_, 1) := fo_dd DX0_put_0 4 rfl
theorem dX0_put_11 : decode cX0_put 11 = .ok (.aload_n 0, 1) := fo_dd DX0_put_0 5 rfl
theorem dX0_put_12 : decode cX0_put 12 = .ok (.getfield 9, 3) := fo_dd DX0_put_0 6 rfl
theorem dX0_put_15 : decode cX0_put 15 = .ok (.aload_n 0, 1) := fo_dd DX0_put_0 7 rfl
theorem dX0_put_16 : decode cX0_put 16 = .ok (.getfield 15, 3) := fo_dd DX0_put_0 8 rfl
theorem dX0_put_19 : decode cX0_put 19 = .ok (.iload_n 1, 1) := fo_dd DX0_put_0 9 rfl
theorem dX0_put_20 : decode cX0_put 20 = .ok (.castore, 1) := fo_dd DX0_put_0 10 rfl
theorem dX0_put_21 : decode cX0_put 21 = .ok (.aload_n 0, 1) := fo_dd DX0_put_0 11 rfl
theorem dX0_put_22 : decode cX0_put 22 = .ok (.dup, 1) := fo_dd DX0_put_0 12 rfl
theorem dX0_put_23 : decode cX0_put 23 = .ok (.getfield 15, 3) := fo_dd DX0_put_0 13 rfl
theorem dX0_put_26 : decode cX0_put 26 = .ok (.iconst 1, 1) := fo_dd DX0_put_0 14 rfl
theorem dX0_put_27 : decode cX0_put 27 = .ok (.iadd, 1) := fo_dd DX0_put_0 15 rfl
theorem dX0_put_28 : decode cX0_put 28 = .ok (.putfield 15, 3) := fo_dd DX0_put_0 16 rfl
theorem dX0_put_31 : decode cX0_put 31 = .ok (.return_, 1) := fo_dd DX0_put_0 17 rfl
theorem DX0_putNumber_0 : fo_dl cX0_putNumber [(0, .iload_n 1, 1), (1, .bipush 100, 2), (3, .if_icmp .lt 14, 3), (6, .aload_n 0, 1), (7, .iload_n 1, 1), (8, .bipush 100, 2), (10, .idiv, 1), (11, .invokestatic 19, 3), (14, .invokevirtual 23, 3), (17, .iload_n 1, 1), (18, .bipush 10, 2), (20, .if_icmp .lt 14, 3), (23, .aload_n 0, 1), (24, .iload_n 1, 1), (25, .bipush 10, 2), (27, .idiv, 1), (28, .invokestatic 19, 3), (31, .invokevirtual 23, 3), (34, .aload_n 0, 1), (35, .iload_n 1, 1), (36, .invokestatic 19, 3), (39, .invokevirtual 23, 3), (42, .return_, 1)] := by decide +kernel
theorem dX0_putNumber_0 : decode cX0_putNumber 0 = .ok (.iload_n 1, 1) := fo_dd DX0_putNumber_0 0 rfl
theorem dX0_putNumber_1 : decode cX0_putNumber 1 = .ok (.bipush 100, 2) := fo_dd DX0_putNumber_0 1 rfl
theorem dX0_putNumber_3 : decode cX0_putNumber 3 = .ok (.if_icmp .lt 14, 3) := fo_dd DX0_putNumber_0 2 rfl
theorem dX0_putNumber_6 : decode cX0_putNumber 6 = .ok (.aload_n 0, 1) := fo_dd DX0_putNumber_0 3 rfl
theorem dX0_putNumber_7 : decode cX0_putNumber 7 = .ok (.iload_n 1, 1) := fo_dd DX0_putNumber_0 4 rfl
theorem dX0_putNumber_8 : decode cX0_putNumber 8 = .ok (.bipush 100, 2) := fo_dd DX0_putNumber_0 5 rfl
theorem dX0_putNumber_10 : decode cX0_putNumber 10 = .ok (.idiv, 1) := fo_dd DX0_putNumber_0 6 rfl
theorem dX0_putNumber_11 : decode cX0_putNumber 11 = .ok (.invokestatic 19, 3) := fo_dd DX0_putNumber_0 7 rfl
theorem dX0_putNumber_14 : decode cX0_putNumber 14 = .ok (.invokevirtual 23, 3) := fo_dd DX0_putNumber_0 8 rfl
theorem dX0_putNumber_17 : decode cX0_putNumber 17 = .ok (.iload_n 1, 1) := fo_dd DX0_putNumber_0 9 rfl
theorem dX0_putNumber_18 : decode cX0_putNumber 18 = .ok (.bipush 10, 2) := fo_dd DX0_putNumber_0 10 rfl
theorem dX0_putNumber_20 : decode cX0_putNumber 20 = .ok (.if_icmp .lt 14, 3) := fo_dd DX0_putNumber_0 11 rfl
theorem dX0_putNumber_23 : decode cX0_putNumber 23 = .ok (.aload_n 0, 1) := fo_dd DX0_putNumber_0 12 rfl
theorem dX0_putNumber_24 : decode cX0_putNumber 24 = .ok (.iload_n 1, 1) := fo_dd DX0_putNumber_0 13 rfl
theorem dX0_putNumber_25 : decode cX0_putNumber 25 = .ok (.bipush 10, 2) := fo_dd DX0_putNumber_0 14 rfl
theorem dX0_putNumber_27 : decode cX0_putNumber 27 = .ok (.idiv, 1) := fo_dd DX0_putNumber_0 15 rfl
theorem dX0_putNumber_28 : decode cX0_putNumber 28 = .ok (.invokestatic 19, 3) := fo_dd DX0_putNumber_0 16 rfl
theorem dX0_putNumber_31 : decode cX0_putNumber 31 = .ok (.invokevirtual 23, 3) := fo_dd DX0_putNumber_0 17 rfl
theorem dX0_putNumber_34 : decode cX0_putNumber 34 = .ok (.aload_n 0, 1) := fo_dd DX0_putNumber_0 18 rfl
theorem dX0_putNumber_35 : decode cX0_putNumber 35 = .ok (.iload_n 1, 1) := fo_dd DX0_putNumber_0 19 rfl
theorem dX0_putNumber_36 : decode cX0_putNumber 36 = .ok (.invokestatic 19, 3) := fo_dd DX0_putNumber_0 20 rfl
theorem dX0_putNumber_39 : decode cX0_putNumber 39 = .ok (.invokevirtual 23, 3) := fo_dd DX0_putNumber_0 21 rfl
theorem dX0_putNumber_42 : decode cX0_putNumber 42 = .ok (.return_, 1) := fo_dd DX0_putNumber_0 22 rfl
theorem DX0_digitOf_0 : fo_dl cX0_digitOf [(0, .bipush 48, 2), (2, .iload_n 0, 1), (3, .bipush 10, 2), (5, .irem, 1), (6, .iadd, 1), (7, .i2c, 1), (8, .ireturn, 1)] := by decide +kernel
theorem dX0_digitOf_0 : decode cX0_digitOf 0 = .ok (.bipush 48, 2) := fo_dd DX0_digitOf_0 0 rfl
theorem dX0_digitOf_2 : decode cX0_digitOf 2 = .ok (.iload_n 0, 1) := fo_dd DX0_digitOf_0 1 rfl
theorem dX0_digitOf_3 : decode cX0_digitOf 3 = .ok (.bipush 10, 2) := fo_dd DX0_digitOf_0 2 rfl
theorem dX0_digitOf_5 : decode cX0_digitOf 5 = .ok (.irem, 1) := fo_dd DX0_digitOf_0 3 rfl
theorem dX0_digitOf_6 : decode cX0_digitOf 6 = .ok (.iadd, 1) := fo_dd DX0_digitOf_0 4 rfl
theorem dX0_digitOf_7 : decode cX0_digitOf 7 = .ok (.i2c, 1) := fo_dd DX0_digitOf_0 5 rfl
theorem dX0_digitOf_8 : decode cX0_digitOf 8 = .ok (.ireturn, 1) := fo_dd DX0_digitOf_0 6 rfl
theorem DX1_init_0 : fo_dl cX1_init [(0, .aload_n 0, 1), (1, .invokespecial 3, 3), (4, .aload_n 0, 1), (5, .bipush 9, 2), (7, .anewarray 11, 3), (10, .putfield 13, 3), (13, .iconst 0, 1), (14, .istore_n 1, 1), (15, .iload_n 1, 1), (16, .bipush 9, 2), (18, .if_icmp .ge 22, 3), (21, .aload_n 0, 1), (22, .getfield 13, 3), (25, .iload_n 1, 1), (26, .new 11, 3), (29, .dup, 1), (30, .invokespecial 17, 3), (33, .aastore, 1), (34, .iinc 1 1, 3), (37, .goto (-22), 3), (40, .return_, 1)] := by decide +kernel
theorem dX1_init_0 : decode cX1_init 0 = .ok (.aload_n 0, 1) := fo_dd DX1_init_0 0 rfl
theorem dX1_init_1 : decode cX1_init 1 = .ok (.invokespecial 3, 3) := fo_dd DX1_init_0 1 rfl
theorem dX1_init_4 : decode cX1_init 4 = .ok (.aload_n 0, 1) := fo_dd DX1_init_0 2 rfl
theorem dX1_init_5 : decode cX1_init 5 = .ok (.bipush 9, 2) := fo_dd DX1_init_0 3 rfl
theorem dX1_init_7 : decode cX1_init 7 = .ok (.anewarray 11, 3) := fo_dd DX1_init_0 4 rfl
theorem dX1_init_10 : decode cX1_init 10 = .ok (.putfield 13, 3) := fo_dd DX1_init_0 5 rfl
theorem dX1_init_13 : decode cX1_init 13 = .ok (.iconst 0, 1) := fo_dd DX1_init_0 6 rfl
theorem dX1_init_14 : decode cX1_init 14 = .ok (.istore_n 1, 1) := fo_dd DX1_init_0 7 rfl
theorem dX1_init_15 : decode cX1_init 15 = .ok (.iload_n 1, 1) := fo_dd DX1_init_0 8 rfl
theorem dX1_init_16 : decode cX1_init 16 = .ok (.bipush 9, 2) := fo_dd DX1_init_0 9 rfl
theorem dX1_init_18 : decode cX1_init 18 = .ok (.if_icmp .ge 22, 3) := fo_dd DX1_init_0 10 rfl
theorem dX1_init_21 : decode cX1_init 21 = .ok (.aload_n 0, 1) := fo_dd DX1_init_0 11 rfl
theorem dX1_init_22 : decode cX1_init 22 = .ok (.getfield 13, 3) := fo_dd DX1_init_0 12 rfl
theorem dX1_init_25 : decode cX1_init 25 = .ok (.iload_n 1, 1) := fo_dd DX1_init_0 13 rfl
theorem dX1_init_26 : decode cX1_init 26 = .ok (.new 11, 3) := fo_dd DX1_init_0 14 rfl
theorem dX1_init_29 : decode cX1_init 29 = .ok (.dup, 1) := fo_dd DX1_init_0 15 rfl
theorem dX1_init_30 : decode cX1_init 30 = .ok (.invokespecial 17, 3) := fo_dd DX1_init_0 16 rfl
theorem dX1_init_33 : decode cX1_init 33 = .ok (.aastore, 1) := fo_dd DX1_init_0 17 rfl
theorem dX1_init_34 : decode cX1_init 34 = .ok (.iinc 1 1, 3) := fo_dd DX1_init_0 18 rfl
theorem dX1_init_37 : decode cX1_init 37 = .ok (.goto (-22), 3) := fo_dd DX1_init_0 19 rfl
theorem dX1_init_40 : decode cX1_init 40 = .ok (.return_, 1) := fo_dd DX1_init_0 20 rfl
theorem DX1_write_0 : fo_dl cX1_write [(0, .aload_n 0, 1), (1, .getfield 13, 3), (4, .aload_n 0, 1), (5, .getfield 18, 3), (8, .aaload, 1), (9, .aload_n 1, 1), (10, .invokevirtual 22, 3), (13, .return_, 1)] := by decide +kernel
theorem dX1_write_0 : decode cX1_write 0 = .ok (.aload_n 0, 1) := fo_dd DX1_write_0 0 rfl
theorem dX1_write_1 : decode cX1_write 1 = .ok (.getfield 13, 3) := fo_dd DX1_write_0 1 rfl
theorem dX1_write_4 : decode cX1_write 4 = .ok (.aload_n 0, 1) := fo_dd DX1_write_0 2 rfl
theorem dX1_write_5 : decode cX1_write 5 = .ok (.getfield 18, 3) := fo_dd DX1_write_0 3 rfl
theorem dX1_write_8 : decode cX1_write 8 = .ok (.aaload, 1) := fo_dd DX1_write_0 4 rfl
theorem dX1_write_9 : decode cX1_write 9 = .ok (.aload_n 1, 1) := fo_dd DX1_write_0 5 rfl
theorem dX1_write_10 : decode cX1_write 10 = .ok (.invokevirtual 22, 3) := fo_dd DX1_write_0 6 rfl
theorem dX1_write_13 : decode cX1_write 13 = .ok (.return_, 1) := fo_dd DX1_write_0 7 rfl
theorem DX1_read_0 : fo_dl cX1_read [(0, .aload_n 1, 1), (1, .aload_n 0, 1), (2, .getfield 13, 3), (5, .aload_n 0, 1), (6, .getfield 18, 3), (9, .aaload, 1), (10, .invokevirtual 22, 3), (13, .return_, 1)] := by decide +kernel
theorem dX1_read_0 : decode cX1_read 0 = .ok (.aload_n 1, 1) := fo_dd DX1_read_0 0 rfl
theorem dX1_read_1 : decode cX1_read 1 = .ok (.aload_n 0, 1) := fo_dd DX1_read_0 1 rfl
theorem dX1_read_2 : decode cX1_read 2 = .ok (.getfield 13, 3) := fo_dd DX1_read_0 2 rfl
theorem dX1_read_5 : decode cX1_read 5 = .ok (.aload_n 0, 1) := fo_dd DX1_read_0 3 rfl
theorem dX1_read_6 : decode cX1_read 6 = .ok (.getfield 18, 3) := fo_dd DX1_read_0 4 rfl
theorem dX1_read_9 : decode cX1_read 9 = .ok (.aaload, 1) := fo_dd DX1_read_0 5 rfl
theorem dX1_read_10 : decode cX1_read 10 = .ok (.invokevirtual 22, 3) := fo_dd DX1_read_0 6 rfl
theorem dX1_read_13 : decode cX1_read 13 = .ok (.return_, 1) := fo_dd DX1_read_0 7 rfl
theorem DX1_advance_0 : fo_dl cX1_advance [(0, .aload_n 0, 1), (1, .aload_n 0, 1), (2, .getfield 18, 3), (5, .iconst 1, 1), (6, .iadd, 1), (7, .bipush 9, 2), (9, .if_icmp .ge 12, 3), (12, .aload_n 0, 1), (13, .getfield 18, 3), (16, .iconst 1, 1), (17, .iadd, 1), (18, .goto 4, 3), (21, .iconst 0, 1), (22, .putfield 18, 3), (25, .aload_n 0, 1), (26, .getfield 26, 3), (29, .bipush 8, 2), (31, .if_icmp .ge 13, 3), (34, .aload_n 0, 1), (35, .dup, 1), (36, .getfield 26, 3), (39, .iconst 1, 1), (40, .iadd, 1), (41, .putfield 26, 3), (44, .return_, 1)] := by decide +kernel
theorem dX1_advance_0 : decode cX1_advance 0 = .ok (.aload_n 0, 1) := fo_dd DX1_advance_0 0 rfl
theorem dX1_advance_1 : decode cX1_advance 1 = .ok (.aload_n 0, 1) := fo_dd DX1_advance_0 1 rfl
theorem dX1_advance_2 : decode cX1_advance 2 = .ok (.getfield 18, 3) := fo_dd DX1_advance_0 2 rfl
theorem dX1_advance_5 : decode cX1_advance 5 = .ok (.iconst 1, 1) := fo_dd DX1_advance_0 3 rfl
theorem dX1_advance_6 : decode cX1_advance 6 = .ok (.iadd, 1) := fo_dd DX1_advance_0 4 rfl
theorem dX1_advance_7 : decode cX1_advance 7 = .ok (.bipush 9, 2) := fo_dd DX1_advance_0 5 rfl
theorem dX1_advance_9 : decode cX1_advance 9 = .ok (.if_icmp .ge 12, 3) := fo_dd DX1_advance_0 6 rfl
theorem dX1_advance_12 : decode cX1_advance 12 = .ok (.aload_n 0, 1) := fo_dd DX1_advance_0 7 rfl
theorem dX1_advance_13 : decode cX1_advance 13 = .ok (.getfield 18, 3) := fo_dd DX1_advance_0 8 rfl
theorem dX1_advance_16 : decode cX1_advance 16 = .ok (.iconst 1, 1) := fo_dd DX1_advance_0 9 rfl
theorem dX1_advance_17 : decode cX1_advance 17 = .ok (.iadd, 1) := fo_dd DX1_advance_0 10 rfl
theorem dX1_advance_18 : decode cX1_advance 18 = .ok (.goto 4, 3) := fo_dd DX1_advance_0 11 rfl
theorem dX1_advance_21 : decode cX1_advance 21 = .ok (.iconst 0, 1) := fo_dd DX1_advance_0 12 rfl
theorem dX1_advance_22 : decode cX1_advance 22 = .ok (.putfield 18, 3) := fo_dd DX1_advance_0 13 rfl
theorem dX1_advance_25 : decode cX1_advance 25 = .ok (.aload_n 0, 1) := fo_dd DX1_advance_0 14 rfl
theorem dX1_advance_26 : decode cX1_advance 26 = .ok (.getfield 26, 3) := fo_dd DX1_advance_0 15 rfl
theorem dX1_advance_29 : decode cX1_advance 29 = .ok (.bipush 8, 2) := fo_dd DX1_advance_0 16 rfl
theorem dX1_advance_31 : decode cX1_advance 31 = .ok (.if_icmp .ge 13, 3) := fo_dd DX1_advance_0 17 rfl
theorem dX1_advance_34 : decode cX1_advance 34 = .ok (.aload_n 0, 1) := fo_dd DX1_advance_0 18 rfl
theorem dX1_advance_35 : decode cX1_advance 35 = .ok (.dup, 1) := fo_dd DX1_advance_0 19 rfl
theorem dX1_advance_36 : decode cX1_advance 36 = .ok (.getfield 26, 3) := fo_dd DX1_advance_0 20 rfl
theorem dX1_advance_39 : decode cX1_advance 39 = .ok (.iconst 1, 1) := fo_dd DX1_advance_0 21 rfl
theorem dX1_advance_40 : decode cX1_advance 40 = .ok (.iadd, 1) := fo_dd DX1_advance_0 22 rfl
theorem dX1_advance_41 : decode cX1_advance 41 = .ok (.putfield 26, 3) := fo_dd DX1_advance_0 23 rfl
theorem dX1_advance_44 : decode cX1_advance 44 = .ok (.return_, 1) := fo_dd DX1_advance_0 24 rfl
theorem DX1_stepBack_0 : fo_dl cX1_stepBack [(0, .aload_n 0, 1), (1, .aload_n 0, 1), (2, .getfield 18, 3), (5, .ifCond .le 12, 3), (8, .aload_n 0, 1), (9, .getfield 18, 3), (12, .iconst 1, 1), (13, .isub, 1), (14, .goto 5, 3), (17, .bipush 8, 2), (19, .putfield 18, 3), (22, .aload_n 0, 1), (23, .dup, 1), (24, .getfield 26, 3), (27, .iconst 1, 1), (28, .isub, 1), (29, .putfield 26, 3), (32, .return_, 1)] := by decide +kernel
theorem dX1_stepBack_0 : decode cX1_stepBack 0 = .ok (.aload_n 0, 1) := fo_dd DX1_stepBack_0 0 rfl
theorem dX1_stepBack_1 : decode cX1_stepBack 1 = .ok (.aload_n 0, 1) := fo_dd DX1_stepBack_0 1 rfl
theorem dX1_stepBack_2 : decode cX1_stepBack 2 = .ok (.getfield 18, 3) := fo_dd DX1_stepBack_0 2 rfl
theorem dX1_stepBack_5 : decode cX1_stepBack 5 = .ok (.ifCond .le 12, 3) := fo_dd DX1_stepBack_0 3 rfl
theorem dX1_stepBack_8 : decode cX1_stepBack 8 = .ok (.aload_n 0, 1) := fo_dd DX1_stepBack_0 4 rfl
theorem dX1_stepBack_9 : decode cX1_stepBack 9 = .ok (.getfield 18, 3) := fo_dd DX1_stepBack_0 5 rfl
theorem dX1_stepBack_12 : decode cX1_stepBack 12 = .ok (.iconst 1, 1) := fo_dd DX1_stepBack_0 6 rfl
theorem dX1_stepBack_13 : decode cX1_stepBack 13 = .ok (.isub, 1) := fo_dd DX1_stepBack_0 7 rfl
theorem dX1_stepBack_14 : decode cX1_stepBack 14 = .ok (.goto 5, 3) := fo_dd DX1_stepBack_0 8 rfl
theorem dX1_stepBack_17 : decode cX1_stepBack 17 = .ok (.bipush 8, 2) := fo_dd DX1_stepBack_0 9 rfl
theorem dX1_stepBack_19 : decode cX1_stepBack 19 = .ok (.putfield 18, 3) := fo_dd DX1_stepBack_0 10 rfl
theorem dX1_stepBack_22 : decode cX1_stepBack 22 = .ok (.aload_n 0, 1) := fo_dd DX1_stepBack_0 11 rfl
theorem dX1_stepBack_23 : decode cX1_stepBack 23 = .ok (.dup, 1) := fo_dd DX1_stepBack_0 12 rfl
theorem dX1_stepBack_24 : decode cX1_stepBack 24 = .ok (.getfield 26, 3) := fo_dd DX1_stepBack_0 13 rfl
theorem dX1_stepBack_27 : decode cX1_stepBack 27 = .ok (.iconst 1, 1) := fo_dd DX1_stepBack_0 14 rfl
theorem dX1_stepBack_28 : decode cX1_stepBack 28 = .ok (.isub, 1) := fo_dd DX1_stepBack_0 15 rfl
theorem dX1_stepBack_29 : decode cX1_stepBack 29 = .ok (.putfield 26, 3) := fo_dd DX1_stepBack_0 16 rfl
theorem dX1_stepBack_32 : decode cX1_stepBack 32 = .ok (.return_, 1) := fo_dd DX1_stepBack_0 17 rfl
theorem DX2_init_0 : fo_dl cX2_init [(0, .aload_n 0, 1), (1, .invokespecial 3, 3), (4, .aload_n 0, 1), (5, .bipush 60, 2), (7, .newarray .char, 2), (9, .putfield 9, 3), (12, .aload_n 0, 1), (13, .bipush 60, 2), (15, .newarray .char, 2), (17, .putfield 15, 3), (20, .aload_n 0, 1), (21, .bipush 60, 2), (23, .newarray .int, 2), (25, .putfield 18, 3), (28, .aload_n 0, 1), (29, .bipush 60, 2), (31, .newarray .int, 2), (33, .putfield 22, 3), (36, .aload_n 0, 1), (37, .bipush 60, 2), (39, .newarray .int, 2), (41, .putfield 25, 3), (44, .return_, 1)] := by decide +kernel
theorem dX2_init_0 : decode cX2_init 0 = .ok (.aload_n 0, 1) := fo_dd DX2_init_0 0 rfl
theorem dX2_init_1 : decode cX2_init 1 = .ok (.invokespecial 3, 3) := fo_dd DX2_init_0 1 rfl
theorem dX2_init_4 : decode cX2_init 4 = .ok (.aload_n 0, 1) := fo_dd DX2_init_0 2 rfl
theorem dX2_init_5 : decode cX2_init 5 = .ok (.bipush 60, 2) := fo_dd DX2_init_0 3 rfl
theorem dX2_init_7 : decode cX2_init 7 = .ok (.newarray .char, 2) := fo_dd DX2_init_0 4 rfl
theorem dX2_init_9 : decode cX2_init 9 = .ok (.putfield 9, 3) := fo_dd DX2_init_0 5 rfl
theorem dX2_init_12 : decode cX2_init 12 = .ok (.aload_n 0, 1) := fo_dd DX2_init_0 6 rfl
theorem dX2_init_13 : decode cX2_init 13 = .ok (.bipush 60, 2) := fo_dd DX2_init_0 7 rfl
theorem dX2_init_15 : decode cX2_init 15 = .ok (.newarray .char, 2) := fo_dd DX2_init_0 8 rfl
theorem dX2_init_17 : decode cX2_init 17 = .ok (.putfield 15, 3) := fo_dd DX2_init_0 9 rfl
theorem dX2_init_20 : decode cX2_init 20 = .ok (.aload_n 0, 1) := fo_dd DX2_init_0 10 rfl
theorem dX2_init_21 : decode cX2_init 21 = .ok (.bipush 60, 2) := fo_dd DX2_init_0 11 rfl
theorem dX2_init_23 : decode cX2_init 23 = .ok (.newarray .int, 2) := fo_dd DX2_init_0 12 rfl
theorem dX2_init_25 : decode cX2_init 25 = .ok (.putfield 18, 3) := fo_dd DX2_init_0 13 rfl
theorem dX2_init_28 : decode cX2_init 28 = .ok (.aload_n 0, 1) := fo_dd DX2_init_0 14 rfl
theorem dX2_init_29 : decode cX2_init 29 = .ok (.bipush 60, 2) := fo_dd DX2_init_0 15 rfl
theorem dX2_init_31 : decode cX2_init 31 = .ok (.newarray .int, 2) := fo_dd DX2_init_0 16 rfl
theorem dX2_init_33 : decode cX2_init 33 = .ok (.putfield 22, 3) := fo_dd DX2_init_0 17 rfl
theorem dX2_init_36 : decode cX2_init 36 = .ok (.aload_n 0, 1) := fo_dd DX2_init_0 18 rfl
theorem dX2_init_37 : decode cX2_init 37 = .ok (.bipush 60, 2) := fo_dd DX2_init_0 19 rfl
theorem dX2_init_39 : decode cX2_init 39 = .ok (.newarray .int, 2) := fo_dd DX2_init_0 20 rfl
theorem dX2_init_41 : decode cX2_init 41 = .ok (.putfield 25, 3) := fo_dd DX2_init_0 21 rfl
theorem dX2_init_44 : decode cX2_init 44 = .ok (.return_, 1) := fo_dd DX2_init_0 22 rfl
theorem DX2_append_0 : fo_dl cX2_append [(0, .aload_n 0, 1), (1, .getfield 9, 3), (4, .aload_n 0, 1), (5, .getfield 28, 3), (8, .iload_n 1, 1), (9, .castore, 1), (10, .aload_n 0, 1), (11, .dup, 1), (12, .getfield 28, 3), (15, .iconst 1, 1), (16, .iadd, 1), (17, .putfield 28, 3), (20, .aload_n 0, 1), (21, .getfield 28, 3), (24, .ireturn, 1)] := by decide +kernel
theorem dX2_append_0 : decode cX2_append 0 = .ok (.aload_n 0, 1) := fo_dd DX2_append_0 0 rfl
theorem dX2_append_1 : decode cX2_append 1 = .ok (.getfield 9, 3) := fo_dd DX2_append_0 1 rfl
theorem dX2_append_4 : decode cX2_append 4 = .ok (.aload_n 0, 1) := fo_dd DX2_append_0 2 rfl
theorem dX2_append_5 : decode cX2_append 5 = .ok (.getfield 28, 3) := fo_dd DX2_append_0 3 rfl
theorem dX2_append_8 : decode cX2_append 8 = .ok (.iload_n 1, 1) := fo_dd DX2_append_0 4 rfl
theorem dX2_append_9 : decode cX2_append 9 = .ok (.castore, 1) := fo_dd DX2_append_0 5 rfl
theorem dX2_append_10 : decode cX2_append 10 = .ok (.aload_n 0, 1) := fo_dd DX2_append_0 6 rfl
theorem dX2_append_11 : decode cX2_append 11 = .ok (.dup, 1) := fo_dd DX2_append_0 7 rfl
theorem dX2_append_12 : decode cX2_append 12 = .ok (.getfield 28, 3) := fo_dd DX2_append_0 8 rfl
theorem dX2_append_15 : decode cX2_append 15 = .ok (.iconst 1, 1) := fo_dd DX2_append_0 9 rfl
theorem dX2_append_16 : decode cX2_append 16 = .ok (.iadd, 1) := fo_dd DX2_append_0 10 rfl
theorem dX2_append_17 : decode cX2_append 17 = .ok (.putfield 28, 3) := fo_dd DX2_append_0 11 rfl
theorem dX2_append_20 : decode cX2_append 20 = .ok (.aload_n 0, 1) := fo_dd DX2_append_0 12 rfl
theorem dX2_append_21 : decode cX2_append 21 = .ok (.getfield 28, 3) := fo_dd DX2_append_0 13 rfl
theorem dX2_append_24 : decode cX2_append 24 = .ok (.ireturn, 1) := fo_dd DX2_append_0 14 rfl
theorem DX2_parse_0 : fo_dl cX2_parse [(0, .aload_n 0, 1), (1, .iconst 0, 1), (2, .putfield 32, 3), (5, .aload_n 0, 1), (6, .iconst 0, 1), (7, .putfield 35, 3), (10, .aload_n 0, 1), (11, .iconst 0, 1), (12, .putfield 38, 3), (15, .iconst 0, 1), (16, .istore_n 1, 1), (17, .iload_n 1, 1), (18, .bipush 60, 2), (20, .if_icmp .ge 54, 3), (23, .aload_n 0, 1), (24, .invokevirtual 41, 3), (27, .ifCond .ne 5, 3), (30, .iconst 0, 1), (31, .ireturn, 1), (32, .aload_n 0, 1), (33, .dup, 1), (34, .getfield 35, 3), (37, .iconst 1, 1), (38, .iadd, 1), (39, .putfield 35, 3), (42, .aload_n 0, 1), (43, .bipush 59, 2), (45, .invokevirtual 45, 3), (48, .ifCond .ne 20, 3), (51, .aload_n 0, 1), (52, .getfield 32, 3), (55, .aload_n 0, 1), (56, .getfield 28, 3), (59, .if_icmp .ne 7, 3), (62, .iconst 1, 1), (63, .goto 4, 3), (66, .iconst 0, 1), (67, .ireturn, 1), (68, .iinc 1 1, 3), (71, .goto (-54), 3), (74, .iconst 0, 1), (75, .ireturn, 1)] := by decide +kernel
theorem dX2_parse_0 : decode cX2_parse 0 = .ok (.aload_n 0, 1) := fo_dd DX2_parse_0 0 rfl
theorem dX2_parse_1 : decode cX2_parse 1 = .ok (.iconst 0, 1) := fo_dd DX2_parse_0 1 rfl
theorem dX2_parse_2 : decode cX2_parse 2 = .ok (.putfield 32, 3) := fo_dd DX2_parse_0 2 rfl
theorem dX2_parse_5 : decode cX2_parse 5 = .ok (.aload_n 0, 1) := fo_dd DX2_parse_0 3 rfl
theorem dX2_parse_6 : decode cX2_parse 6 = .ok (.iconst 0, 1) := fo_dd DX2_parse_0 4 rfl
theorem dX2_parse_7 : decode cX2_parse 7 = .ok (.putfield 35, 3) := fo_dd DX2_parse_0 5 rfl
theorem dX2_parse_10 : decode cX2_parse 10 = .ok (.aload_n 0, 1) := fo_dd DX2_parse_0 6 rfl
theorem dX2_parse_11 : decode cX2_parse 11 = .ok (.iconst 0, 1) := fo_dd DX2_parse_0 7 rfl
theorem dX2_parse_12 : decode cX2_parse 12 = .ok (.putfield 38, 3) := fo_dd DX2_parse_0 8 rfl
theorem dX2_parse_15 : decode cX2_parse 15 = .ok (.iconst 0, 1) := fo_dd DX2_parse_0 9 rfl
theorem dX2_parse_16 : decode cX2_parse 16 = .ok (.istore_n 1, 1) := fo_dd DX2_parse_0 10 rfl
theorem dX2_parse_17 : decode cX2_parse 17 = .ok (.iload_n 1, 1) := fo_dd DX2_parse_0 11 rfl
theorem dX2_parse_18 : decode cX2_parse 18 = .ok (.bipush 60, 2) := fo_dd DX2_parse_0 12 rfl
theorem dX2_parse_20 : decode cX2_parse 20 = .ok (.if_icmp .ge 54, 3) := fo_dd DX2_parse_0 13 rfl
theorem dX2_parse_23 : decode cX2_parse 23 = .ok (.aload_n 0, 1) := fo_dd DX2_parse_0 14 rfl
theorem dX2_parse_24 : decode cX2_parse 24 = .ok (.invokevirtual 41, 3) := fo_dd DX2_parse_0 15 rfl
theorem dX2_parse_27 : decode cX2_parse 27 = .ok (.ifCond .ne 5, 3) := fo_dd DX2_parse_0 16 rfl
theorem dX2_parse_30 : decode cX2_parse 30 = .ok (.iconst 0, 1) := fo_dd DX2_parse_0 17 rfl
theorem dX2_parse_31 : decode cX2_parse 31 = .ok (.ireturn, 1) := fo_dd DX2_parse_0 18 rfl
theorem dX2_parse_32 : decode cX2_parse 32 = .ok (.aload_n 0, 1) := fo_dd DX2_parse_0 19 rfl
theorem dX2_parse_33 : decode cX2_parse 33 = .ok (.dup, 1) := fo_dd DX2_parse_0 20 rfl
theorem dX2_parse_34 : decode cX2_parse 34 = .ok (.getfield 35, 3) := fo_dd DX2_parse_0 21 rfl
theorem dX2_parse_37 : decode cX2_parse 37 = .ok (.iconst 1, 1) := fo_dd DX2_parse_0 22 rfl
theorem dX2_parse_38 : decode cX2_parse 38 = .ok (.iadd, 1) := fo_dd DX2_parse_0 23 rfl
theorem dX2_parse_39 : decode cX2_parse 39 = .ok (.putfield 35, 3) := fo_dd DX2_parse_0 24 rfl
theorem dX2_parse_42 : decode cX2_parse 42 = .ok (.aload_n 0, 1) := fo_dd DX2_parse_0 25 rfl
theorem dX2_parse_43 : decode cX2_parse 43 = .ok (.bipush 59, 2) := fo_dd DX2_parse_0 26 rfl
theorem dX2_parse_45 : decode cX2_parse 45 = .ok (.invokevirtual 45, 3) := fo_dd DX2_parse_0 27 rfl
theorem dX2_parse_48 : decode cX2_parse 48 = .ok (.ifCond .ne 20, 3) := fo_dd DX2_parse_0 28 rfl
theorem dX2_parse_51 : decode cX2_parse 51 = .ok (.aload_n 0, 1) := fo_dd DX2_parse_0 29 rfl
theorem dX2_parse_52 : decode cX2_parse 52 = .ok (.getfield 32, 3) := fo_dd DX2_parse_0 30 rfl
theorem dX2_parse_55 : decode cX2_parse 55 = .ok (.aload_n 0, 1) := fo_dd DX2_parse_0 31 rfl
theorem dX2_parse_56 : decode cX2_parse 56 = .ok (.getfield 28, 3) := fo_dd DX2_parse_0 32 rfl
theorem dX2_parse_59 : decode cX2_parse 59 = .ok (.if_icmp .ne 7, 3) := fo_dd DX2_parse_0 33 rfl
theorem dX2_parse_62 : decode cX2_parse 62 = .ok (.iconst 1, 1) := fo_dd DX2_parse_0 34 rfl
theorem dX2_parse_63 : decode cX2_parse 63 = .ok (.goto 4, 3) := fo_dd DX2_parse_0 35 rfl
theorem dX2_parse_66 : decode cX2_parse 66 = .ok (.iconst 0, 1) := fo_dd DX2_parse_0 36 rfl
theorem dX2_parse_67 : decode cX2_parse 67 = .ok (.ireturn, 1) := fo_dd DX2_parse_0 37 rfl
theorem dX2_parse_68 : decode cX2_parse 68 = .ok (.iinc 1 1, 3) := fo_dd DX2_parse_0 38 rfl
theorem dX2_parse_71 : decode cX2_parse 71 = .ok (.goto (-54), 3) := fo_dd DX2_parse_0 39 rfl
theorem dX2_parse_74 : decode cX2_parse 74 = .ok (.iconst 0, 1) := fo_dd DX2_parse_0 40 rfl
theorem dX2_parse_75 : decode cX2_parse 75 = .ok (.ireturn, 1) := fo_dd DX2_parse_0 41 rfl
theorem DX2_parseCommand_0 : fo_dl cX2_parseCommand [(0, .aload_n 0, 1), (1, .bipush 112, 2), (3, .invokevirtual 49, 3), (6, .ifCond .eq 25, 3), (9, .aload_n 0, 1), (10, .ldc 52, 2), (12, .invokevirtual 54, 3), (15, .ifCond .eq 14, 3), (18, .aload_n 0, 1), (19, .invokevirtual 58, 3), (22, .ifCond .eq 7, 3), (25, .iconst 1, 1), (26, .goto 4, 3), (29, .iconst 0, 1), (30, .ireturn, 1), (31, .aload_n 0, 1), (32, .bipush 115, 2), (34, .invokevirtual 49, 3), (37, .ifCond .eq 25, 3), (40, .aload_n 0, 1), (41, .ldc 61, 2), (43, .invokevirtual 54, 3), (46, .ifCond .eq 14, 3), (49, .aload_n 0, 1), (50, .invokevirtual 63, 3), (53, .ifCond .eq 7, 3), (56, .iconst 1, 1), (57, .goto 4, 3), (60, .iconst 0, 1), (61, .ireturn, 1), (62, .aload_n 0, 1), (63, .bipush 108, 2), (65, .invokevirtual 49, 3), (68, .ifCond .eq 27, 3), (71, .aload_n 0, 1), (72, .ldc 66, 2), (74, .invokevirtual 54, 3), (77, .ifCond .eq 16, 3), (80, .aload_n 0, 1), (81, .bipush 108, 2), (83, .invokevirtual 68, 3), (86, .ifCond .eq 7, 3), (89, .iconst 1, 1), (90, .goto 4, 3), (93, .iconst 0, 1), (94, .ireturn, 1), (95, .aload_n 0, 1), (96, .ldc 71, 2), (98, .invokevirtual 54, 3), (101, .ifCond .eq 16, 3), (104, .aload_n 0, 1), (105, .bipush 102, 2), (107, .invokevirtual 68, 3), (110, .ifCond .eq 7, 3), (113, .iconst 1, 1), (114, .goto 4, 3), (117, .iconst 0, 1), (118, .ireturn, 1)] := by decide +kernel
theorem dX2_parseCommand_0 : decode cX2_parseCommand 0 = .ok (.aload_n 0, 1) := fo_dd DX2_parseCommand_0 0 rfl
theorem dX2_parseCommand_1 : decode cX2_parseCommand 1 = .ok (.bipush 112, 2) := fo_dd DX2_parseCommand_0 1 rfl
theorem dX2_parseCommand_3 : decode cX2_parseCommand 3 = .ok (.invokevirtual 49, 3) := fo_dd DX2_parseCommand_0 2 rfl
theorem dX2_parseCommand_6 : decode cX2_parseCommand 6 = .ok (.ifCond .eq 25, 3) := fo_dd DX2_parseCommand_0 3 rfl
theorem dX2_parseCommand_9 : decode cX2_parseCommand 9 = .ok (.aload_n 0, 1) := fo_dd DX2_parseCommand_0 4 rfl
theorem dX2_parseCommand_10 : decode cX2_parseCommand 10 = .ok (.ldc 52, 2) := fo_dd DX2_parseCommand_0 5 rfl
theorem dX2_parseCommand_12 : decode cX2_parseCommand 12 = .ok (.invokevirtual 54, 3) := fo_dd DX2_parseCommand_0 6 rfl
theorem dX2_parseCommand_15 : decode cX2_parseCommand 15 = .ok (.ifCond .eq 14, 3) := fo_dd DX2_parseCommand_0 7 rfl
theorem dX2_parseCommand_18 : decode cX2_parseCommand 18 = .ok (.aload_n 0, 1) := fo_dd DX2_parseCommand_0 8 rfl
theorem dX2_parseCommand_19 : decode cX2_parseCommand 19 = .ok (.invokevirtual 58, 3) := fo_dd DX2_parseCommand_0 9 rfl
theorem dX2_parseCommand_22 : decode cX2_parseCommand 22 = .ok (.ifCond .eq 7, 3) := fo_dd DX2_parseCommand_0 10 rfl
theorem dX2_parseCommand_25 : decode cX2_parseCommand 25 = .ok (.iconst 1, 1) := fo_dd DX2_parseCommand_0 11 rfl
theorem dX2_parseCommand_26 : decode cX2_parseCommand 26 = .ok (.goto 4, 3) := fo_dd DX2_parseCommand_0 12 rfl
theorem dX2_parseCommand_29 : decode cX2_parseCommand 29 = .ok (.iconst 0, 1) := fo_dd DX2_parseCommand_0 13 rfl
theorem dX2_parseCommand_30 : decode cX2_parseCommand 30 = .ok (.ireturn, 1) := fo_dd DX2_parseCommand_0 14 rfl
theorem dX2_parseCommand_31 : decode cX2_parseCommand 31 = .ok (.aload_n 0, 1) := fo_dd DX2_parseCommand_0 15 rfl
theorem dX2_parseCommand_32 : decode cX2_parseCommand 32 = .ok (.bipush 115, 2) := fo_dd DX2_parseCommand_0 16 rfl
theorem dX2_parseCommand_34 : decode cX2_parseCommand 34 = .ok (.invokevirtual 49, 3) := fo_dd DX2_parseCommand_0 17 rfl
theorem dX2_parseCommand_37 : decode cX2_parseCommand 37 = .ok (.ifCond .eq 25, 3) := fo_dd DX2_parseCommand_0 18 rfl
theorem dX2_parseCommand_40 : decode cX2_parseCommand 40 = .ok (.aload_n 0, 1) := fo_dd DX2_parseCommand_0 19 rfl
theorem dX2_parseCommand_41 : decode cX2_parseCommand 41 = .ok (.ldc 61, 2) := fo_dd DX2_parseCommand_0 20 rfl
theorem dX2_parseCommand_43 : decode cX2_parseCommand 43 = .ok (.invokevirtual 54, 3) := fo_dd DX2_parseCommand_0 21 rfl
theorem dX2_parseCommand_46 : decode cX2_parseCommand 46 = .ok (.ifCond .eq 14, 3) := fo_dd DX2_parseCommand_0 22 rfl
theorem dX2_parseCommand_49 : decode cX2_parseCommand 49 = .ok (.aload_n 0, 1) := fo_dd DX2_parseCommand_0 23 rfl
theorem dX2_parseCommand_50 : decode cX2_parseCommand 50 = .ok (.invokevirtual 63, 3) := fo_dd DX2_parseCommand_0 24 rfl
theorem dX2_parseCommand_53 : decode cX2_parseCommand 53 = .ok (.ifCond .eq 7, 3) := fo_dd DX2_parseCommand_0 25 rfl
theorem dX2_parseCommand_56 : decode cX2_parseCommand 56 = .ok (.iconst 1, 1) := fo_dd DX2_parseCommand_0 26 rfl
theorem dX2_parseCommand_57 : decode cX2_parseCommand 57 = .ok (.goto 4, 3) := fo_dd DX2_parseCommand_0 27 rfl
theorem dX2_parseCommand_60 : decode cX2_parseCommand 60 = .ok (.iconst 0, 1) := fo_dd DX2_parseCommand_0 28 rfl
theorem dX2_parseCommand_61 : decode cX2_parseCommand 61 = .ok (.ireturn, 1) := fo_dd DX2_parseCommand_0 29 rfl
theorem dX2_parseCommand_62 : decode cX2_parseCommand 62 = .ok (.aload_n 0, 1) := fo_dd DX2_parseCommand_0 30 rfl
theorem dX2_parseCommand_63 : decode cX2_parseCommand 63 = .ok (.bipush 108, 2) := fo_dd DX2_parseCommand_0 31 rfl
theorem dX2_parseCommand_65 : decode cX2_parseCommand 65 = .ok (.invokevirtual 49, 3) := fo_dd DX2_parseCommand_0 32 rfl
theorem dX2_parseCommand_68 : decode cX2_parseCommand 68 = .ok (.ifCond .eq 27, 3) := fo_dd DX2_parseCommand_0 33 rfl
theorem dX2_parseCommand_71 : decode cX2_parseCommand 71 = .ok (.aload_n 0, 1) := fo_dd DX2_parseCommand_0 34 rfl
theorem dX2_parseCommand_72 : decode cX2_parseCommand 72 = .ok (.ldc 66, 2) := fo_dd DX2_parseCommand_0 35 rfl
theorem dX2_parseCommand_74 : decode cX2_parseCommand 74 = .ok (.invokevirtual 54, 3) := fo_dd DX2_parseCommand_0 36 rfl
theorem dX2_parseCommand_77 : decode cX2_parseCommand 77 = .ok (.ifCond .eq 16, 3) := fo_dd DX2_parseCommand_0 37 rfl
theorem dX2_parseCommand_80 : decode cX2_parseCommand 80 = .ok (.aload_n 0, 1) := fo_dd DX2_parseCommand_0 38 rfl
theorem dX2_parseCommand_81 : decode cX2_parseCommand 81 = .ok (.bipush 108, 2) := fo_dd DX2_parseCommand_0 39 rfl
theorem dX2_parseCommand_83 : decode cX2_parseCommand 83 = .ok (.invokevirtual 68, 3) := fo_dd DX2_parseCommand_0 40 rfl
theorem dX2_parseCommand_86 : decode cX2_parseCommand 86 = .ok (.ifCond .eq 7, 3) := fo_dd DX2_parseCommand_0 41 rfl
theorem dX2_parseCommand_89 : decode cX2_parseCommand 89 = .ok (.iconst 1, 1) := fo_dd DX2_parseCommand_0 42 rfl
theorem dX2_parseCommand_90 : decode cX2_parseCommand 90 = .ok (.goto 4, 3) := fo_dd DX2_parseCommand_0 43 rfl
theorem dX2_parseCommand_93 : decode cX2_parseCommand 93 = .ok (.iconst 0, 1) := fo_dd DX2_parseCommand_0 44 rfl
theorem dX2_parseCommand_94 : decode cX2_parseCommand 94 = .ok (.ireturn, 1) := fo_dd DX2_parseCommand_0 45 rfl
theorem dX2_parseCommand_95 : decode cX2_parseCommand 95 = .ok (.aload_n 0, 1) := fo_dd DX2_parseCommand_0 46 rfl
theorem dX2_parseCommand_96 : decode cX2_parseCommand 96 = .ok (.ldc 71, 2) := fo_dd DX2_parseCommand_0 47 rfl
theorem dX2_parseCommand_98 : decode cX2_parseCommand 98 = .ok (.invokevirtual 54, 3) := fo_dd DX2_parseCommand_0 48 rfl
theorem dX2_parseCommand_101 : decode cX2_parseCommand 101 = .ok (.ifCond .eq 16, 3) := fo_dd DX2_parseCommand_0 49 rfl
theorem dX2_parseCommand_104 : decode cX2_parseCommand 104 = .ok (.aload_n 0, 1) := fo_dd DX2_parseCommand_0 50 rfl
theorem dX2_parseCommand_105 : decode cX2_parseCommand 105 = .ok (.bipush 102, 2) := fo_dd DX2_parseCommand_0 51 rfl
theorem dX2_parseCommand_107 : decode cX2_parseCommand 107 = .ok (.invokevirtual 68, 3) := fo_dd DX2_parseCommand_0 52 rfl
theorem dX2_parseCommand_110 : decode cX2_parseCommand 110 = .ok (.ifCond .eq 7, 3) := fo_dd DX2_parseCommand_0 53 rfl
theorem dX2_parseCommand_113 : decode cX2_parseCommand 113 = .ok (.iconst 1, 1) := fo_dd DX2_parseCommand_0 54 rfl
theorem dX2_parseCommand_114 : decode cX2_parseCommand 114 = .ok (.goto 4, 3) := fo_dd DX2_parseCommand_0 55 rfl
theorem dX2_parseCommand_117 : decode cX2_parseCommand 117 = .ok (.iconst 0, 1) := fo_dd DX2_parseCommand_0 56 rfl
theorem dX2_parseCommand_118 : decode cX2_parseCommand 118 = .ok (.ireturn, 1) := fo_dd DX2_parseCommand_0 57 rfl
theorem DX2_parseProphet_0 : fo_dl cX2_parseProphet [(0, .aload_n 0, 1), (1, .bipush 109, 2), (3, .invokevirtual 49, 3), (6, .ifCond .ne 21, 3), (9, .aload_n 0, 1), (10, .bipush 100, 2), (12, .invokevirtual 49, 3), (15, .ifCond .ne 12, 3), (18, .aload_n 0, 1), (19, .bipush 115, 2), (21, .invokevirtual 49, 3), (24, .ifCond .eq 7, 3), (27, .iconst 1, 1), (28, .goto 4, 3), (31, .iconst 0, 1), (32, .istore_n 1, 1), (33, .iload_n 1, 1), (34, .ifCond .ne 23, 3), (37, .aload_n 0, 1), (38, .bipush 108, 2), (40, .invokevirtual 49, 3), (43, .ifCond .ne 14, 3), (46, .aload_n 0, 1), (47, .bipush 116, 2), (49, .invokevirtual 49, 3), (52, .ifCond .ne 5, 3), (55, .iconst 0, 1), (56, .ireturn, 1), (57, .aload_n 0, 1), (58, .getfield 9, 3), (61, .aload_n 0, 1), (62, .getfield 32, 3), (65, .caload, 1), (66, .istore_n 2, 1), (67, .aload_n 0, 1), (68, .dup, 1), (69, .getfield 32, 3), (72, .iconst 1, 1), (73, .iadd, 1), (74, .putfield 32, 3), (77, .iload_n 1, 1), (78, .ifCond .eq 12, 3), (81, .aload_n 0, 1), (82, .invokevirtual 73, 3), (85, .ifCond .ne 5, 3), (88, .iconst 0, 1), (89, .ireturn, 1), (90, .aload_n 0, 1), (91, .bipush 112, 2), (93, .iload_n 2, 1), (94, .iload_n 1, 1), (95, .ifCond .eq 10, 3), (98, .aload_n 0, 1), (99, .invokevirtual 76, 3), (102, .goto 4, 3), (105, .iconst 1, 1), (106, .invokevirtual 80, 3), (109, .iconst 1, 1), (110, .ireturn, 1)] := by decide +kernel
theorem dX2_parseProphet_0 : decode cX2_parseProphet 0 = .ok (.aload_n 0, 1) := fo_dd DX2_parseProphet_0 0 rfl
theorem dX2_parseProphet_1 : decode cX2_parseProphet 1 = .ok (.bipush 109, 2) := fo_dd DX2_parseProphet_0 1 rfl
theorem dX2_parseProphet_3 : decode cX2_parseProphet 3 = .ok (.invokevirtual 49, 3) := fo_dd DX2_parseProphet_0 2 rfl
theorem dX2_parseProphet_6 : decode cX2_parseProphet 6 = .ok (.ifCond .ne 21, 3) := fo_dd DX2_parseProphet_0 3 rfl
theorem dX2_parseProphet_9 : decode cX2_parseProphet 9 = .ok (.aload_n 0, 1) := fo_dd DX2_parseProphet_0 4 rfl
theorem dX2_parseProphet_10 : decode cX2_parseProphet 10 = .ok (.bipush 100, 2) := fo_dd DX2_parseProphet_0 5 rfl
theorem dX2_parseProphet_12 : decode cX2_parseProphet 12 = .ok (.invokevirtual 49, 3) := fo_dd DX2_parseProphet_0 6 rfl
theorem dX2_parseProphet_15 : decode cX2_parseProphet 15 = .ok (.ifCond .ne 12, 3) := fo_dd DX2_parseProphet_0 7 rfl
theorem dX2_parseProphet_18 : decode cX2_parseProphet 18 = .ok (.aload_n 0, 1) := fo_dd DX2_parseProphet_0 8 rfl
theorem dX2_parseProphet_19 : decode cX2_parseProphet 19 = .ok (.bipush 115, 2) := fo_dd DX2_parseProphet_0 9 rfl
theorem dX2_parseProphet_21 : decode cX2_parseProphet 21 = .ok (.invokevirtual 49, 3) := fo_dd DX2_parseProphet_0 10 rfl
theorem dX2_parseProphet_24 : decode cX2_parseProphet 24 = .ok (.ifCond .eq 7, 3) := fo_dd DX2_parseProphet_0 11 rfl
theorem dX2_parseProphet_27 : decode cX2_parseProphet 27 = .ok (.iconst 1, 1) := fo_dd DX2_parseProphet_0 12 rfl
theorem dX2_parseProphet_28 : decode cX2_parseProphet 28 = .ok (.goto 4, 3) := fo_dd DX2_parseProphet_0 13 rfl
theorem dX2_parseProphet_31 : decode cX2_parseProphet 31 = .ok (.iconst 0, 1) := fo_dd DX2_parseProphet_0 14 rfl
theorem dX2_parseProphet_32 : decode cX2_parseProphet 32 = .ok (.istore_n 1, 1) := fo_dd DX2_parseProphet_0 15 rfl
theorem dX2_parseProphet_33 : decode cX2_parseProphet 33 = .ok (.iload_n 1, 1) := fo_dd DX2_parseProphet_0 16 rfl
theorem dX2_parseProphet_34 : decode cX2_parseProphet 34 = .ok (.ifCond .ne 23, 3) := fo_dd DX2_parseProphet_0 17 rfl
theorem dX2_parseProphet_37 : decode cX2_parseProphet 37 = .ok (.aload_n 0, 1) := fo_dd DX2_parseProphet_0 18 rfl
theorem dX2_parseProphet_38 : decode cX2_parseProphet 38 = .ok (.bipush 108, 2) := fo_dd DX2_parseProphet_0 19 rfl
theorem dX2_parseProphet_40 : decode cX2_parseProphet 40 = .ok (.invokevirtual 49, 3) := fo_dd DX2_parseProphet_0 20 rfl
theorem dX2_parseProphet_43 : decode cX2_parseProphet 43 = .ok (.ifCond .ne 14, 3) := fo_dd DX2_parseProphet_0 21 rfl
theorem dX2_parseProphet_46 : decode cX2_parseProphet 46 = .ok (.aload_n 0, 1) := fo_dd DX2_parseProphet_0 22 rfl
theorem dX2_parseProphet_47 : decode cX2_parseProphet 47 = .ok (.bipush 116, 2) := fo_dd DX2_parseProphet_0 23 rfl
theorem dX2_parseProphet_49 : decode cX2_parseProphet 49 = .ok (.invokevirtual 49, 3) := fo_dd DX2_parseProphet_0 24 rfl
theorem dX2_parseProphet_52 : decode cX2_parseProphet 52 = .ok (.ifCond .ne 5, 3) := fo_dd DX2_parseProphet_0 25 rfl
theorem dX2_parseProphet_55 : decode cX2_parseProphet 55 = .ok (.iconst 0, 1) := fo_dd DX2_parseProphet_0 26 rfl
theorem dX2_parseProphet_56 : decode cX2_parseProphet 56 = .ok (.ireturn, 1) := fo_dd DX2_parseProphet_0 27 rfl
theorem dX2_parseProphet_57 : decode cX2_parseProphet 57 = .ok (.aload_n 0, 1) := fo_dd DX2_parseProphet_0 28 rfl
theorem dX2_parseProphet_58 : decode cX2_parseProphet 58 = .ok (.getfield 9, 3) := fo_dd DX2_parseProphet_0 29 rfl
theorem dX2_parseProphet_61 : decode cX2_parseProphet 61 = .ok (.aload_n 0, 1) := fo_dd DX2_parseProphet_0 30 rfl
theorem dX2_parseProphet_62 : decode cX2_parseProphet 62 = .ok (.getfield 32, 3) := fo_dd DX2_parseProphet_0 31 rfl
theorem dX2_parseProphet_65 : decode cX2_parseProphet 65 = .ok (.caload, 1) := fo_dd DX2_parseProphet_0 32 rfl
theorem dX2_parseProphet_66 : decode cX2_parseProphet 66 = .ok (.istore_n 2, 1) := fo_dd DX2_parseProphet_0 33 rfl
theorem dX2_parseProphet_67 : decode cX2_parseProphet 67 = .ok (.aload_n 0, 1) := fo_dd DX2_parseProphet_0 34 rfl
theorem dX2_parseProphet_68 : decode cX2_parseProphet 68 = .ok (.dup, 1) := fo_dd DX2_parseProphet_0 35 rfl
theorem dX2_parseProphet_69 : decode cX2_parseProphet 69 = .ok (.getfield 32, 3) := fo_dd DX2_parseProphet_0 36 rfl
theorem dX2_parseProphet_72 : decode cX2_parseProphet 72 = .ok (.iconst 1, 1) := fo_dd DX2_parseProphet_0 37 rfl
theorem dX2_parseProphet_73 : decode cX2_parseProphet 73 = .ok (.iadd, 1) := fo_dd DX2_parseProphet_0 38 rfl
theorem dX2_parseProphet_74 : decode cX2_parseProphet 74 = .ok (.putfield 32, 3) := fo_dd DX2_parseProphet_0 39 rfl
theorem dX2_parseProphet_77 : decode cX2_parseProphet 77 = .ok (.iload_n 1, 1) := fo_dd DX2_parseProphet_0 40 rfl
theorem dX2_parseProphet_78 : decode cX2_parseProphet 78 = .ok (.ifCond .eq 12, 3) := fo_dd DX2_parseProphet_0 41 rfl
theorem dX2_parseProphet_81 : decode cX2_parseProphet 81 = .ok (.aload_n 0, 1) := fo_dd DX2_parseProphet_0 42 rfl
theorem dX2_parseProphet_82 : decode cX2_parseProphet 82 = .ok (.invokevirtual 73, 3) := fo_dd DX2_parseProphet_0 43 rfl
theorem dX2_parseProphet_85 : decode cX2_parseProphet 85 = .ok (.ifCond .ne 5, 3) := fo_dd DX2_parseProphet_0 44 rfl
theorem dX2_parseProphet_88 : decode cX2_parseProphet 88 = .ok (.iconst 0, 1) := fo_dd DX2_parseProphet_0 45 rfl
theorem dX2_parseProphet_89 : decode cX2_parseProphet 89 = .ok (.ireturn, 1) := fo_dd DX2_parseProphet_0 46 rfl
theorem dX2_parseProphet_90 : decode cX2_parseProphet 90 = .ok (.aload_n 0, 1) := fo_dd DX2_parseProphet_0 47 rfl
theorem dX2_parseProphet_91 : decode cX2_parseProphet 91 = .ok (.bipush 112, 2) := fo_dd DX2_parseProphet_0 48 rfl
theorem dX2_parseProphet_93 : decode cX2_parseProphet 93 = .ok (.iload_n 2, 1) := fo_dd DX2_parseProphet_0 49 rfl
theorem dX2_parseProphet_94 : decode cX2_parseProphet 94 = .ok (.iload_n 1, 1) := fo_dd DX2_parseProphet_0 50 rfl
theorem dX2_parseProphet_95 : decode cX2_parseProphet 95 = .ok (.ifCond .eq 10, 3) := fo_dd DX2_parseProphet_0 51 rfl
theorem dX2_parseProphet_98 : decode cX2_parseProphet 98 = .ok (.aload_n 0, 1) := fo_dd DX2_parseProphet_0 52 rfl
theorem dX2_parseProphet_99 : decode cX2_parseProphet 99 = .ok (.invokevirtual 76, 3) := fo_dd DX2_parseProphet_0 53 rfl
theorem dX2_parseProphet_102 : decode cX2_parseProphet 102 = .ok (.goto 4, 3) := fo_dd DX2_parseProphet_0 54 rfl
theorem dX2_parseProphet_105 : decode cX2_parseProphet 105 = .ok (.iconst 1, 1) := fo_dd DX2_parseProphet_0 55 rfl
theorem dX2_parseProphet_106 : decode cX2_parseProphet 106 = .ok (.invokevirtual 80, 3) := fo_dd DX2_parseProphet_0 56 rfl
theorem dX2_parseProphet_109 : decode cX2_parseProphet 109 = .ok (.iconst 1, 1) := fo_dd DX2_parseProphet_0 57 rfl
theorem dX2_parseProphet_110 : decode cX2_parseProphet 110 = .ok (.ireturn, 1) := fo_dd DX2_parseProphet_0 58 rfl
theorem DX2_parseSee_0 : fo_dl cX2_parseSee [(0, .aload_n 0, 1), (1, .invokevirtual 73, 3), (4, .ifCond .ne 5, 3), (7, .iconst 0, 1), (8, .ireturn, 1), (9, .aload_n 0, 1), (10, .invokevirtual 76, 3), (13, .istore_n 1, 1), (14, .aload_n 0, 1), (15, .bipush 61, 2), (17, .invokevirtual 45, 3), (20, .ifCond .ne 5, 3), (23, .iconst 0, 1), (24, .ireturn, 1), (25, .iconst 0, 1), (26, .istore_n 2, 1), (27, .iload_n 2, 1), (28, .bipush 60, 2), (30, .if_icmp .ge 40, 3), (33, .aload_n 0, 1), (34, .invokevirtual 73, 3), (37, .ifCond .ne 5, 3), (40, .iconst 0, 1), (41, .ireturn, 1), (42, .aload_n 0, 1), (43, .bipush 115, 2), (45, .iload_n 1, 1), (46, .aload_n 0, 1), (47, .invokevirtual 84, 3), (50, .invokevirtual 80, 3), (53, .aload_n 0, 1), (54, .bipush 44, 2), (56, .invokevirtual 45, 3), (59, .ifCond .ne 5, 3), (62, .iconst 1, 1), (63, .ireturn, 1), (64, .iinc 2 1, 3), (67, .goto (-40), 3), (70, .iconst 0, 1), (71, .ireturn, 1)] := by decide +kernel
theorem dX2_parseSee_0 : decode cX2_parseSee 0 = .ok (.aload_n 0, 1) := fo_dd DX2_parseSee_0 0 rfl
theorem dX2_parseSee_1 : decode cX2_parseSee 1 = .ok (.invokevirtual 73, 3) := fo_dd DX2_parseSee_0 1 rfl
theorem dX2_parseSee_4 : decode cX2_parseSee 4 = .ok (.ifCond .ne 5, 3) := fo_dd DX2_parseSee_0 2 rfl
theorem dX2_parseSee_7 : decode cX2_parseSee 7 = .ok (.iconst 0, 1) := fo_dd DX2_parseSee_0 3 rfl
theorem dX2_parseSee_8 : decode cX2_parseSee 8 = .ok (.ireturn, 1) := fo_dd DX2_parseSee_0 4 rfl
theorem dX2_parseSee_9 : decode cX2_parseSee 9 = .ok (.aload_n 0, 1) := fo_dd DX2_parseSee_0 5 rfl
theorem dX2_parseSee_10 : decode cX2_parseSee 10 = .ok (.invokevirtual 76, 3) := fo_dd DX2_parseSee_0 6 rfl
theorem dX2_parseSee_13 : decode cX2_parseSee 13 = .ok (.istore_n 1, 1) := fo_dd DX2_parseSee_0 7 rfl
theorem dX2_parseSee_14 : decode cX2_parseSee 14 = .ok (.aload_n 0, 1) := fo_dd DX2_parseSee_0 8 rfl
theorem dX2_parseSee_15 : decode cX2_parseSee 15 = .ok (.bipush 61, 2) := fo_dd DX2_parseSee_0 9 rfl
theorem dX2_parseSee_17 : decode cX2_parseSee 17 = .ok (.invokevirtual 45, 3) := fo_dd DX2_parseSee_0 10 rfl
theorem dX2_parseSee_20 : decode cX2_parseSee 20 = .ok (.ifCond .ne 5, 3) := fo_dd DX2_parseSee_0 11 rfl
theorem dX2_parseSee_23 : decode cX2_parseSee 23 = .ok (.iconst 0, 1) := fo_dd DX2_parseSee_0 12 rfl
theorem dX2_parseSee_24 : decode cX2_parseSee 24 = .ok (.ireturn, 1) := fo_dd DX2_parseSee_0 13 rfl
theorem dX2_parseSee_25 : decode cX2_parseSee 25 = .ok (.iconst 0, 1) := fo_dd DX2_parseSee_0 14 rfl
theorem dX2_parseSee_26 : decode cX2_parseSee 26 = .ok (.istore_n 2, 1) := fo_dd DX2_parseSee_0 15 rfl
theorem dX2_parseSee_27 : decode cX2_parseSee 27 = .ok (.iload_n 2, 1) := fo_dd DX2_parseSee_0 16 rfl
theorem dX2_parseSee_28 : decode cX2_parseSee 28 = .ok (.bipush 60, 2) := fo_dd DX2_parseSee_0 17 rfl
theorem dX2_parseSee_30 : decode cX2_parseSee 30 = .ok (.if_icmp .ge 40, 3) := fo_dd DX2_parseSee_0 18 rfl
theorem dX2_parseSee_33 : decode cX2_parseSee 33 = .ok (.aload_n 0, 1) := fo_dd DX2_parseSee_0 19 rfl
theorem dX2_parseSee_34 : decode cX2_parseSee 34 = .ok (.invokevirtual 73, 3) := fo_dd DX2_parseSee_0 20 rfl
theorem dX2_parseSee_37 : decode cX2_parseSee 37 = .ok (.ifCond .ne 5, 3) := fo_dd DX2_parseSee_0 21 rfl
theorem dX2_parseSee_40 : decode cX2_parseSee 40 = .ok (.iconst 0, 1) := fo_dd DX2_parseSee_0 22 rfl
theorem dX2_parseSee_41 : decode cX2_parseSee 41 = .ok (.ireturn, 1) := fo_dd DX2_parseSee_0 23 rfl
theorem dX2_parseSee_42 : decode cX2_parseSee 42 = .ok (.aload_n 0, 1) := fo_dd DX2_parseSee_0 24 rfl
theorem dX2_parseSee_43 : decode cX2_parseSee 43 = .ok (.bipush 115, 2) := fo_dd DX2_parseSee_0 25 rfl
theorem dX2_parseSee_45 : decode cX2_parseSee 45 = .ok (.iload_n 1, 1) := fo_dd DX2_parseSee_0 26 rfl
theorem dX2_parseSee_46 : decode cX2_parseSee 46 = .ok (.aload_n 0, 1) := fo_dd DX2_parseSee_0 27 rfl
theorem dX2_parseSee_47 : decode cX2_parseSee 47 = .ok (.invokevirtual 84, 3) := fo_dd DX2_parseSee_0 28 rfl
theorem dX2_parseSee_50 : decode cX2_parseSee 50 = .ok (.invokevirtual 80, 3) := fo_dd DX2_parseSee_0 29 rfl
theorem dX2_parseSee_53 : decode cX2_parseSee 53 = .ok (.aload_n 0, 1) := fo_dd DX2_parseSee_0 30 rfl
theorem dX2_parseSee_54 : decode cX2_parseSee 54 = .ok (.bipush 44, 2) := fo_dd DX2_parseSee_0 31 rfl
theorem dX2_parseSee_56 : decode cX2_parseSee 56 = .ok (.invokevirtual 45, 3) := fo_dd DX2_parseSee_0 32 rfl
theorem dX2_parseSee_59 : decode cX2_parseSee 59 = .ok (.ifCond .ne 5, 3) := fo_dd DX2_parseSee_0 33 rfl
theorem dX2_parseSee_62 : decode cX2_parseSee 62 = .ok (.iconst 1, 1) := fo_dd DX2_parseSee_0 34 rfl
theorem dX2_parseSee_63 : decode cX2_parseSee 63 = .ok (.ireturn, 1) := fo_dd DX2_parseSee_0 35 rfl
theorem dX2_parseSee_64 : decode cX2_parseSee 64 = .ok (.iinc 2 1, 3) := fo_dd DX2_parseSee_0 36 rfl
theorem dX2_parseSee_67 : decode cX2_parseSee 67 = .ok (.goto (-40), 3) := fo_dd DX2_parseSee_0 37 rfl
theorem dX2_parseSee_70 : decode cX2_parseSee 70 = .ok (.iconst 0, 1) := fo_dd DX2_parseSee_0 38 rfl
theorem dX2_parseSee_71 : decode cX2_parseSee 71 = .ok (.ireturn, 1) := fo_dd DX2_parseSee_0 39 rfl
theorem DX2_parseDigit_0 : fo_dl cX2_parseDigit [(0, .aload_n 0, 1), (1, .invokevirtual 73, 3), (4, .ifCond .ne 5, 3), (7, .iconst 0, 1), (8, .ireturn, 1), (9, .aload_n 0, 1), (10, .iload_n 1, 1), (11, .aload_n 0, 1), (12, .invokevirtual 76, 3), (15, .iconst 0, 1), (16, .invokevirtual 80, 3), (19, .iconst 1, 1), (20, .ireturn, 1)] := by decide +kernel
theorem dX2_parseDigit_0 : decode cX2_parseDigit 0 = .ok (.aload_n 0, 1) := fo_dd DX2_parseDigit_0 0 rfl
theorem dX2_parseDigit_1 : decode cX2_parseDigit 1 = .ok (.invokevirtual 73, 3) := fo_dd DX2_parseDigit_0 1 rfl
theorem dX2_parseDigit_4 : decode cX2_parseDigit 4 = .ok (.ifCond .ne 5, 3) := fo_dd DX2_parseDigit_0 2 rfl
theorem dX2_parseDigit_7 : decode cX2_parseDigit 7 = .ok (.iconst 0, 1) := fo_dd DX2_parseDigit_0 3 rfl
theorem dX2_parseDigit_8 : decode cX2_parseDigit 8 = .ok (.ireturn, 1) := fo_dd DX2_parseDigit_0 4 rfl
theorem dX2_parseDigit_9 : decode cX2_parseDigit 9 = .ok (.aload_n 0, 1) := fo_dd DX2_parseDigit_0 5 rfl
theorem dX2_parseDigit_10 : decode cX2_parseDigit 10 = .ok (.iload_n 1, 1) := fo_dd DX2_parseDigit_0 6 rfl
theorem dX2_parseDigit_11 : decode cX2_parseDigit 11 = .ok (.aload_n 0, 1) := fo_dd DX2_parseDigit_0 7 rfl
theorem dX2_parseDigit_12 : decode cX2_parseDigit 12 = .ok (.invokevirtual 76, 3) := fo_dd DX2_parseDigit_0 8 rfl
theorem dX2_parseDigit_15 : decode cX2_parseDigit 15 = .ok (.iconst 0, 1) := fo_dd DX2_parseDigit_0 9 rfl
theorem dX2_parseDigit_16 : decode cX2_parseDigit 16 = .ok (.invokevirtual 80, 3) := fo_dd DX2_parseDigit_0 10 rfl
theorem dX2_parseDigit_19 : decode cX2_parseDigit 19 = .ok (.iconst 1, 1) := fo_dd DX2_parseDigit_0 11 rfl
theorem dX2_parseDigit_20 : decode cX2_parseDigit 20 = .ok (.ireturn, 1) := fo_dd DX2_parseDigit_0 12 rfl
theorem DX2_readNumber_0 : fo_dl cX2_readNumber [(0, .aload_n 0, 1), (1, .invokevirtual 76, 3), (4, .istore_n 1, 1), (5, .iconst 0, 1), (6, .istore_n 2, 1), (7, .iload_n 2, 1), (8, .iconst 2, 1), (9, .if_icmp .ge 26, 3), (12, .aload_n 0, 1), (13, .invokevirtual 73, 3), (16, .ifCond .eq 19, 3), (19, .iload_n 1, 1), (20, .bipush 10, 2), (22, .imul, 1), (23, .aload_n 0, 1), (24, .invokevirtual 76, 3), (27, .iadd, 1), (28, .istore_n 1, 1), (29, .iinc 2 1, 3), (32, .goto (-25), 3), (35, .iload_n 1, 1), (36, .ireturn, 1)] := by decide +kernel
theorem dX2_readNumber_0 : decode cX2_readNumber 0 = .ok (.aload_n 0, 1) := fo_dd DX2_readNumber_0 0 rfl
theorem dX2_readNumber_1 : decode cX2_readNumber 1 = .ok (.invokevirtual 76, 3) := fo_dd DX2_readNumber_0 1 rfl
theorem dX2_readNumber_4 : decode cX2_readNumber 4 = .ok (.istore_n 1, 1) := fo_dd DX2_readNumber_0 2 rfl
theorem dX2_readNumber_5 : decode cX2_readNumber 5 = .ok (.iconst 0, 1) := fo_dd DX2_readNumber_0 3 rfl
theorem dX2_readNumber_6 : decode cX2_readNumber 6 = .ok (.istore_n 2, 1) := fo_dd DX2_readNumber_0 4 rfl
theorem dX2_readNumber_7 : decode cX2_readNumber 7 = .ok (.iload_n 2, 1) := fo_dd DX2_readNumber_0 5 rfl
theorem dX2_readNumber_8 : decode cX2_readNumber 8 = .ok (.iconst 2, 1) := fo_dd DX2_readNumber_0 6 rfl
theorem dX2_readNumber_9 : decode cX2_readNumber 9 = .ok (.if_icmp .ge 26, 3) := fo_dd DX2_readNumber_0 7 rfl
theorem dX2_readNumber_12 : decode cX2_readNumber 12 = .ok (.aload_n 0, 1) := fo_dd DX2_readNumber_0 8 rfl
theorem dX2_readNumber_13 : decode cX2_readNumber 13 = .ok (.invokevirtual 73, 3) := fo_dd DX2_readNumber_0 9 rfl
theorem dX2_readNumber_16 : decode cX2_readNumber 16 = .ok (.ifCond .eq 19, 3) := fo_dd DX2_readNumber_0 10 rfl
theorem dX2_readNumber_19 : decode cX2_readNumber 19 = .ok (.iload_n 1, 1) := fo_dd DX2_readNumber_0 11 rfl
theorem dX2_readNumber_20 : decode cX2_readNumber 20 = .ok (.bipush 10, 2) := fo_dd DX2_readNumber_0 12 rfl
theorem dX2_readNumber_22 : decode cX2_readNumber 22 = .ok (.imul, 1) := fo_dd DX2_readNumber_0 13 rfl
theorem dX2_readNumber_23 : decode cX2_readNumber 23 = .ok (.aload_n 0, 1) := fo_dd DX2_readNumber_0 14 rfl
theorem dX2_readNumber_24 : decode cX2_readNumber 24 = .ok (.invokevirtual 76, 3) := fo_dd DX2_readNumber_0 15 rfl
theorem dX2_readNumber_27 : decode cX2_readNumber 27 = .ok (.iadd, 1) := fo_dd DX2_readNumber_0 16 rfl
theorem dX2_readNumber_28 : decode cX2_readNumber 28 = .ok (.istore_n 1, 1) := fo_dd DX2_readNumber_0 17 rfl
theorem dX2_readNumber_29 : decode cX2_readNumber 29 = .ok (.iinc 2 1, 3) := fo_dd DX2_readNumber_0 18 rfl
theorem dX2_readNumber_32 : decode cX2_readNumber 32 = .ok (.goto (-25), 3) := fo_dd DX2_readNumber_0 19 rfl
theorem dX2_readNumber_35 : decode cX2_readNumber 35 = .ok (.iload_n 1, 1) := fo_dd DX2_readNumber_0 20 rfl
theorem dX2_readNumber_36 : decode cX2_readNumber 36 = .ok (.ireturn, 1) := fo_dd DX2_readNumber_0 21 rfl
theorem DX2_readDigit_0 : fo_dl cX2_readDigit [(0, .aload_n 0, 1), (1, .getfield 9, 3), (4, .aload_n 0, 1), (5, .getfield 32, 3), (8, .caload, 1), (9, .bipush 48, 2), (11, .isub, 1), (12, .istore_n 1, 1), (13, .aload_n 0, 1), (14, .dup, 1), (15, .getfield 32, 3), (18, .iconst 1, 1), (19, .iadd, 1), (20, .putfield 32, 3), (23, .iload_n 1, 1), (24, .ireturn, 1)] := by decide +kernel
theorem dX2_readDigit_0 : decode cX2_readDigit 0 = .ok (.aload_n 0, 1) := fo_dd DX2_readDigit_0 0 rfl
theorem dX2_readDigit_1 : decode cX2_readDigit 1 = .ok (.getfield 9, 3) := fo_dd DX2_readDigit_0 1 rfl
theorem dX2_readDigit_4 : decode cX2_readDigit 4 = .ok (.aload_n 0, 1) := fo_dd DX2_readDigit_0 2 rfl
theorem dX2_readDigit_5 : decode cX2_readDigit 5 = .ok (.getfield 32, 3) := fo_dd DX2_readDigit_0 3 rfl
theorem dX2_readDigit_8 : decode cX2_readDigit 8 = .ok (.caload, 1) := fo_dd DX2_readDigit_0 4 rfl
theorem dX2_readDigit_9 : decode cX2_readDigit 9 = .ok (.bipush 48, 2) := fo_dd DX2_readDigit_0 5 rfl
theorem dX2_readDigit_11 : decode cX2_readDigit 11 = .ok (.isub, 1) := fo_dd DX2_readDigit_0 6 rfl
theorem dX2_readDigit_12 : decode cX2_readDigit 12 = .ok (.istore_n 1, 1) := fo_dd DX2_readDigit_0 7 rfl
theorem dX2_readDigit_13 : decode cX2_readDigit 13 = .ok (.aload_n 0, 1) := fo_dd DX2_readDigit_0 8 rfl
theorem dX2_readDigit_14 : decode cX2_readDigit 14 = .ok (.dup, 1) := fo_dd DX2_readDigit_0 9 rfl
theorem dX2_readDigit_15 : decode cX2_readDigit 15 = .ok (.getfield 32, 3) := fo_dd DX2_readDigit_0 10 rfl
theorem dX2_readDigit_18 : decode cX2_readDigit 18 = .ok (.iconst 1, 1) := fo_dd DX2_readDigit_0 11 rfl
theorem dX2_readDigit_19 : decode cX2_readDigit 19 = .ok (.iadd, 1) := fo_dd DX2_readDigit_0 12 rfl
theorem dX2_readDigit_20 : decode cX2_readDigit 20 = .ok (.putfield 32, 3) := fo_dd DX2_readDigit_0 13 rfl
theorem dX2_readDigit_23 : decode cX2_readDigit 23 = .ok (.iload_n 1, 1) := fo_dd DX2_readDigit_0 14 rfl
theorem dX2_readDigit_24 : decode cX2_readDigit 24 = .ok (.ireturn, 1) := fo_dd DX2_readDigit_0 15 rfl
theorem DX2_addStep_0 : fo_dl cX2_addStep [(0, .aload_n 0, 1), (1, .getfield 38, 3), (4, .bipush 60, 2), (6, .if_icmp .lt 4, 3), (9, .return_, 1), (10, .aload_n 0, 1), (11, .getfield 15, 3), (14, .aload_n 0, 1), (15, .getfield 38, 3), (18, .iload_n 1, 1), (19, .castore, 1), (20, .aload_n 0, 1), (21, .getfield 18, 3), (24, .aload_n 0, 1), (25, .getfield 38, 3), (28, .iload_n 2, 1), (29, .iastore, 1), (30, .aload_n 0, 1), (31, .getfield 22, 3), (34, .aload_n 0, 1), (35, .getfield 38, 3), (38, .iload_n 3, 1), (39, .iastore, 1), (40, .aload_n 0, 1), (41, .getfield 25, 3), (44, .aload_n 0, 1), (45, .getfield 38, 3), (48, .aload_n 0, 1), (49, .getfield 35, 3), (52, .iastore, 1), (53, .aload_n 0, 1), (54, .dup, 1), (55, .getfield 38, 3), (58, .iconst 1, 1), (59, .iadd, 1), (60, .putfield 38, 3), (63, .return_, 1)] := by decide +kernel
theorem dX2_addStep_0 : decode cX2_addStep 0 = .ok (.aload_n 0, 1) := fo_dd DX2_addStep_0 0 rfl
theorem dX2_addStep_1 : decode cX2_addStep 1 = .ok (.getfield 38, 3) := fo_dd DX2_addStep_0 1 rfl
theorem dX2_addStep_4 : decode cX2_addStep 4 = .ok (.bipush 60, 2) := fo_dd DX2_addStep_0 2 rfl
theorem dX2_addStep_6 : decode cX2_addStep 6 = .ok (.if_icmp .lt 4, 3) := fo_dd DX2_addStep_0 3 rfl
theorem dX2_addStep_9 : decode cX2_addStep 9 = .ok (.return_, 1) := fo_dd DX2_addStep_0 4 rfl
theorem dX2_addStep_10 : decode cX2_addStep 10 = .ok (.aload_n 0, 1) := fo_dd DX2_addStep_0 5 rfl
theorem dX2_addStep_11 : decode cX2_addStep 11 = .ok (.getfield 15, 3) := fo_dd DX2_addStep_0 6 rfl
theorem dX2_addStep_14 : decode cX2_addStep 14 = .ok (.aload_n 0, 1) := fo_dd DX2_addStep_0 7 rfl
theorem dX2_addStep_15 : decode cX2_addStep 15 = .ok (.getfield 38, 3) := fo_dd DX2_addStep_0 8 rfl
theorem dX2_addStep_18 : decode cX2_addStep 18 = .ok (.iload_n 1, 1) := fo_dd DX2_addStep_0 9 rfl
theorem dX2_addStep_19 : decode cX2_addStep 19 = .ok (.castore, 1) := fo_dd DX2_addStep_0 10 rfl
theorem dX2_addStep_20 : decode cX2_addStep 20 = .ok (.aload_n 0, 1) := fo_dd DX2_addStep_0 11 rfl
theorem dX2_addStep_21 : decode cX2_addStep 21 = .ok (.getfield 18, 3) := fo_dd DX2_addStep_0 12 rfl
theorem dX2_addStep_24 : decode cX2_addStep 24 = .ok (.aload_n 0, 1) := fo_dd DX2_addStep_0 13 rfl
theorem dX2_addStep_25 : decode cX2_addStep 25 = .ok (.getfield 38, 3) := fo_dd DX2_addStep_0 14 rfl
theorem dX2_addStep_28 : decode cX2_addStep 28 = .ok (.iload_n 2, 1) := fo_dd DX2_addStep_0 15 rfl
theorem dX2_addStep_29 : decode cX2_addStep 29 = .ok (.iastore, 1) := fo_dd DX2_addStep_0 16 rfl
theorem dX2_addStep_30 : decode cX2_addStep 30 = .ok (.aload_n 0, 1) := fo_dd DX2_addStep_0 17 rfl
theorem dX2_addStep_31 : decode cX2_addStep 31 = .ok (.getfield 22, 3) := fo_dd DX2_addStep_0 18 rfl
theorem dX2_addStep_34 : decode cX2_addStep 34 = .ok (.aload_n 0, 1) := fo_dd DX2_addStep_0 19 rfl
theorem dX2_addStep_35 : decode cX2_addStep 35 = .ok (.getfield 38, 3) := fo_dd DX2_addStep_0 20 rfl
theorem dX2_addStep_38 : decode cX2_addStep 38 = .ok (.iload_n 3, 1) := fo_dd DX2_addStep_0 21 rfl
theorem dX2_addStep_39 : decode cX2_addStep 39 = .ok (.iastore, 1) := fo_dd DX2_addStep_0 22 rfl
theorem dX2_addStep_40 : decode cX2_addStep 40 = .ok (.aload_n 0, 1) := fo_dd DX2_addStep_0 23 rfl
theorem dX2_addStep_41 : decode cX2_addStep 41 = .ok (.getfield 25, 3) := fo_dd DX2_addStep_0 24 rfl
theorem dX2_addStep_44 : decode cX2_addStep 44 = .ok (.aload_n 0, 1) := fo_dd DX2_addStep_0 25 rfl
theorem dX2_addStep_45 : decode cX2_addStep 45 = .ok (.getfield 38, 3) := fo_dd DX2_addStep_0 26 rfl
theorem dX2_addStep_48 : decode cX2_addStep 48 = .ok (.aload_n 0, 1) := fo_dd DX2_addStep_0 27 rfl
theorem dX2_addStep_49 : decode cX2_addStep 49 = .ok (.getfield 35, 3) := fo_dd DX2_addStep_0 28 rfl
theorem dX2_addStep_52 : decode cX2_addStep 52 = .ok (.iastore, 1) := fo_dd DX2_addStep_0 29 rfl
theorem dX2_addStep_53 : decode cX2_addStep 53 = .ok (.aload_n 0, 1) := fo_dd DX2_addStep_0 30 rfl
theorem dX2_addStep_54 : decode cX2_addStep 54 = .ok (.dup, 1) := fo_dd DX2_addStep_0 31 rfl
theorem dX2_addStep_55 : decode cX2_addStep 55 = .ok (.getfield 38, 3) := fo_dd DX2_addStep_0 32 rfl
theorem dX2_addStep_58 : decode cX2_addStep 58 = .ok (.iconst 1, 1) := fo_dd DX2_addStep_0 33 rfl
theorem dX2_addStep_59 : decode cX2_addStep 59 = .ok (.iadd, 1) := fo_dd DX2_addStep_0 34 rfl
theorem dX2_addStep_60 : decode cX2_addStep 60 = .ok (.putfield 38, 3) := fo_dd DX2_addStep_0 35 rfl
theorem dX2_addStep_63 : decode cX2_addStep 63 = .ok (.return_, 1) := fo_dd DX2_addStep_0 36 rfl
theorem DX2_isAt_0 : fo_dl cX2_isAt [(0, .aload_n 0, 1), (1, .getfield 32, 3), (4, .aload_n 0, 1), (5, .getfield 28, 3), (8, .if_icmp .ge 20, 3), (11, .aload_n 0, 1), (12, .getfield 9, 3), (15, .aload_n 0, 1), (16, .getfield 32, 3), (19, .caload, 1), (20, .iload_n 1, 1), (21, .if_icmp .ne 7, 3), (24, .iconst 1, 1), (25, .goto 4, 3), (28, .iconst 0, 1), (29, .ireturn, 1)] := by decide +kernel
theorem dX2_isAt_0 : decode cX2_isAt 0 = .ok (.aload_n 0, 1) := fo_dd DX2_isAt_0 0 rfl
theorem dX2_isAt_1 : decode cX2_isAt 1 = .ok (.getfield 32, 3) := fo_dd DX2_isAt_0 1 rfl
theorem dX2_isAt_4 : decode cX2_isAt 4 = .ok (.aload_n 0, 1) := fo_dd DX2_isAt_0 2 rfl
theorem dX2_isAt_5 : decode cX2_isAt 5 = .ok (.getfield 28, 3) := fo_dd DX2_isAt_0 3 rfl
theorem dX2_isAt_8 : decode cX2_isAt 8 = .ok (.if_icmp .ge 20, 3) := fo_dd DX2_isAt_0 4 rfl
theorem dX2_isAt_11 : decode cX2_isAt 11 = .ok (.aload_n 0, 1) := fo_dd DX2_isAt_0 5 rfl
theorem dX2_isAt_12 : decode cX2_isAt 12 = .ok (.getfield 9, 3) := fo_dd DX2_isAt_0 6 rfl
theorem dX2_isAt_15 : decode cX2_isAt 15 = .ok (.aload_n 0, 1) := fo_dd DX2_isAt_0 7 rfl
theorem dX2_isAt_16 : decode cX2_isAt 16 = .ok (.getfield 32, 3) := fo_dd DX2_isAt_0 8 rfl
theorem dX2_isAt_19 : decode cX2_isAt 19 = .ok (.caload, 1) := fo_dd DX2_isAt_0 9 rfl
theorem dX2_isAt_20 : decode cX2_isAt 20 = .ok (.iload_n 1, 1) := fo_dd DX2_isAt_0 10 rfl
theorem dX2_isAt_21 : decode cX2_isAt 21 = .ok (.if_icmp .ne 7, 3) := fo_dd DX2_isAt_0 11 rfl
theorem dX2_isAt_24 : decode cX2_isAt 24 = .ok (.iconst 1, 1) := fo_dd DX2_isAt_0 12 rfl
theorem dX2_isAt_25 : decode cX2_isAt 25 = .ok (.goto 4, 3) := fo_dd DX2_isAt_0 13 rfl
theorem dX2_isAt_28 : decode cX2_isAt 28 = .ok (.iconst 0, 1) := fo_dd DX2_isAt_0 14 rfl
theorem dX2_isAt_29 : decode cX2_isAt 29 = .ok (.ireturn, 1) := fo_dd DX2_isAt_0 15 rfl
theorem DX2_isAtDigit_0 : fo_dl cX2_isAtDigit [(0, .aload_n 0, 1), (1, .getfield 32, 3), (4, .aload_n 0, 1), (5, .getfield 28, 3), (8, .if_icmp .ge 35, 3), (11, .aload_n 0, 1), (12, .getfield 9, 3), (15, .aload_n 0, 1), (16, .getfield 32, 3), (19, .caload, 1), (20, .bipush 48, 2), (22, .if_icmp .lt 21, 3), (25, .aload_n 0, 1), (26, .getfield 9, 3), (29, .aload_n 0, 1), (30, .getfield 32, 3), (33, .caload, 1), (34, .bipush 57, 2), (36, .if_icmp .gt 7, 3), (39, .iconst 1, 1), (40, .goto 4, 3), (43, .iconst 0, 1), (44, .ireturn, 1)] := by decide +kernel
theorem dX2_isAtDigit_0 : decode cX2_isAtDigit 0 = .ok (.aload_n 0, 1) := fo_dd DX2_isAtDigit_0 0 rfl
theorem dX2_isAtDigit_1 : decode cX2_isAtDigit 1 = .ok (.getfield 32, 3) := fo_dd DX2_isAtDigit_0 1 rfl
theorem dX2_isAtDigit_4 : decode cX2_isAtDigit 4 = .ok (.aload_n 0, 1) := fo_dd DX2_isAtDigit_0 2 rfl
theorem dX2_isAtDigit_5 : decode cX2_isAtDigit 5 = .ok (.getfield 28, 3) := fo_dd DX2_isAtDigit_0 3 rfl
theorem dX2_isAtDigit_8 : decode cX2_isAtDigit 8 = .ok (.if_icmp .ge 35, 3) := fo_dd DX2_isAtDigit_0 4 rfl
theorem dX2_isAtDigit_11 : decode cX2_isAtDigit 11 = .ok (.aload_n 0, 1) := fo_dd DX2_isAtDigit_0 5 rfl
theorem dX2_isAtDigit_12 : decode cX2_isAtDigit 12 = .ok (.getfield 9, 3) := fo_dd DX2_isAtDigit_0 6 rfl
theorem dX2_isAtDigit_15 : decode cX2_isAtDigit 15 = .ok (.aload_n 0, 1) := fo_dd DX2_isAtDigit_0 7 rfl
theorem dX2_isAtDigit_16 : decode cX2_isAtDigit 16 = .ok (.getfield 32, 3) := fo_dd DX2_isAtDigit_0 8 rfl
theorem dX2_isAtDigit_19 : decode cX2_isAtDigit 19 = .ok (.caload, 1) := fo_dd DX2_isAtDigit_0 9 rfl
theorem dX2_isAtDigit_20 : decode cX2_isAtDigit 20 = .ok (.bipush 48, 2) := fo_dd DX2_isAtDigit_0 10 rfl
theorem dX2_isAtDigit_22 : decode cX2_isAtDigit 22 = .ok (.if_icmp .lt 21, 3) := fo_dd DX2_isAtDigit_0 11 rfl
theorem dX2_isAtDigit_25 : decode cX2_isAtDigit 25 = .ok (.aload_n 0, 1) := fo_dd DX2_isAtDigit_0 12 rfl
theorem dX2_isAtDigit_26 : decode cX2_isAtDigit 26 = .ok (.getfield 9, 3) := fo_dd DX2_isAtDigit_0 13 rfl
theorem dX2_isAtDigit_29 : decode cX2_isAtDigit 29 = .ok (.aload_n 0, 1) := fo_dd DX2_isAtDigit_0 14 rfl
theorem dX2_isAtDigit_30 : decode cX2_isAtDigit 30 = .ok (.getfield 32, 3) := fo_dd DX2_isAtDigit_0 15 rfl
theorem dX2_isAtDigit_33 : decode cX2_isAtDigit 33 = .ok (.caload, 1) := fo_dd DX2_isAtDigit_0 16 rfl
theorem dX2_isAtDigit_34 : decode cX2_isAtDigit 34 = .ok (.bipush 57, 2) := fo_dd DX2_isAtDigit_0 17 rfl
theorem dX2_isAtDigit_36 : decode cX2_isAtDigit 36 = .ok (.if_icmp .gt 7, 3) := fo_dd DX2_isAtDigit_0 18 rfl
theorem dX2_isAtDigit_39 : decode cX2_isAtDigit 39 = .ok (.iconst 1, 1) := fo_dd DX2_isAtDigit_0 19 rfl
theorem dX2_isAtDigit_40 : decode cX2_isAtDigit 40 = .ok (.goto 4, 3) := fo_dd DX2_isAtDigit_0 20 rfl
theorem dX2_isAtDigit_43 : decode cX2_isAtDigit 43 = .ok (.iconst 0, 1) := fo_dd DX2_isAtDigit_0 21 rfl
theorem dX2_isAtDigit_44 : decode cX2_isAtDigit 44 = .ok (.ireturn, 1) := fo_dd DX2_isAtDigit_0 22 rfl
theorem DX2_accepts_0 : fo_dl cX2_accepts [(0, .aload_n 0, 1), (1, .iload_n 1, 1), (2, .invokevirtual 49, 3), (5, .ifCond .ne 5, 3), (8, .iconst 0, 1), (9, .ireturn, 1), (10, .aload_n 0, 1), (11, .dup, 1), (12, .getfield 32, 3), (15, .iconst 1, 1), (16, .iadd, 1), (17, .putfield 32, 3), (20, .iconst 1, 1), (21, .ireturn, 1)] := by decide +kernel
theorem dX2_accepts_0 : decode cX2_accepts 0 = .ok (.aload_n 0, 1) := fo_dd DX2_accepts_0 0 rfl
theorem dX2_accepts_1 : decode cX2_accepts 1 = .ok (.iload_n 1, 1) := fo_dd DX2_accepts_0 1 rfl
theorem dX2_accepts_2 : decode cX2_accepts 2 = .ok (.invokevirtual 49, 3) := fo_dd DX2_accepts_0 2 rfl
theorem dX2_accepts_5 : decode cX2_accepts 5 = .ok (.ifCond .ne 5, 3) := fo_dd DX2_accepts_0 3 rfl
theorem dX2_accepts_8 : decode cX2_accepts 8 = .ok (.iconst 0, 1) := fo_dd DX2_accepts_0 4 rfl
theorem dX2_accepts_9 : decode cX2_accepts 9 = .ok (.ireturn, 1) := fo_dd DX2_accepts_0 5 rfl
theorem dX2_accepts_10 : decode cX2_accepts 10 = .ok (.aload_n 0, 1) := fo_dd DX2_accepts_0 6 rfl
theorem dX2_accepts_11 : decode cX2_accepts 11 = .ok (.dup, 1) := fo_dd DX2_accepts_0 7 rfl
theorem dX2_accepts_12 : decode cX2_accepts 12 = .ok (.getfield 32, 3) := fo_dd DX2_accepts_0 8 rfl
theorem dX2_accepts_15 : decode cX2_accepts 15 = .ok (.iconst 1, 1) := fo_dd DX2_accepts_0 9 rfl
theorem dX2_accepts_16 : decode cX2_accepts 16 = .ok (.iadd, 1) := fo_dd DX2_accepts_0 10 rfl
theorem dX2_accepts_17 : decode cX2_accepts 17 = .ok (.putfield 32, 3) := fo_dd DX2_accepts_0 11 rfl
theorem dX2_accepts_20 : decode cX2_accepts 20 = .ok (.iconst 1, 1) := fo_dd DX2_accepts_0 12 rfl
theorem dX2_accepts_21 : decode cX2_accepts 21 = .ok (.ireturn, 1) := fo_dd DX2_accepts_0 13 rfl
theorem DX2_acceptsWord_0 : fo_dl cX2_acceptsWord [(0, .iconst 0, 1), (1, .istore_n 2, 1), (2, .iload_n 2, 1), (3, .aload_n 1, 1), (4, .invokevirtual 87, 3), (7, .if_icmp .ge 23, 3), (10, .aload_n 0, 1), (11, .aload_n 1, 1), (12, .iload_n 2, 1), (13, .invokevirtual 91, 3), (16, .invokevirtual 45, 3), (19, .ifCond .ne 5, 3), (22, .iconst 0, 1), (23, .ireturn, 1), (24, .iinc 2 1, 3), (27, .goto (-25), 3), (30, .iconst 1, 1), (31, .ireturn, 1)] := by decide +kernel
theorem dX2_acceptsWord_0 : decode cX2_acceptsWord 0 = .ok (.iconst 0, 1) := fo_dd DX2_acceptsWord_0 0 rfl
theorem dX2_acceptsWord_1 : decode cX2_acceptsWord 1 = .ok (.istore_n 2, 1) := fo_dd DX2_acceptsWord_0 1 rfl
theorem dX2_acceptsWord_2 : decode cX2_acceptsWord 2 = .ok (.iload_n 2, 1) := fo_dd DX2_acceptsWord_0 2 rfl
theorem dX2_acceptsWord_3 : decode cX2_acceptsWord 3 = .ok (.aload_n 1, 1) := fo_dd DX2_acceptsWord_0 3 rfl
theorem dX2_acceptsWord_4 : decode cX2_acceptsWord 4 = .ok (.invokevirtual 87, 3) := fo_dd DX2_acceptsWord_0 4 rfl
theorem dX2_acceptsWord_7 : decode cX2_acceptsWord 7 = .ok (.if_icmp .ge 23, 3) := fo_dd DX2_acceptsWord_0 5 rfl
theorem dX2_acceptsWord_10 : decode cX2_acceptsWord 10 = .ok (.aload_n 0, 1) := fo_dd DX2_acceptsWord_0 6 rfl
theorem dX2_acceptsWord_11 : decode cX2_acceptsWord 11 = .ok (.aload_n 1, 1) := fo_dd DX2_acceptsWord_0 7 rfl
theorem dX2_acceptsWord_12 : decode cX2_acceptsWord 12 = .ok (.iload_n 2, 1) := fo_dd DX2_acceptsWord_0 8 rfl
theorem dX2_acceptsWord_13 : decode cX2_acceptsWord 13 = .ok (.invokevirtual 91, 3) := fo_dd DX2_acceptsWord_0 9 rfl
theorem dX2_acceptsWord_16 : decode cX2_acceptsWord 16 = .ok (.invokevirtual 45, 3) := fo_dd DX2_acceptsWord_0 10 rfl
theorem dX2_acceptsWord_19 : decode cX2_acceptsWord 19 = .ok (.ifCond .ne 5, 3) := fo_dd DX2_acceptsWord_0 11 rfl
theorem dX2_acceptsWord_22 : decode cX2_acceptsWord 22 = .ok (.iconst 0, 1) := fo_dd DX2_acceptsWord_0 12 rfl
theorem dX2_acceptsWord_23 : decode cX2_acceptsWord 23 = .ok (.ireturn, 1) := fo_dd DX2_acceptsWord_0 13 rfl
theorem dX2_acceptsWord_24 : decode cX2_acceptsWord 24 = .ok (.iinc 2 1, 3) := fo_dd DX2_acceptsWord_0 14 rfl
theorem dX2_acceptsWord_27 : decode cX2_acceptsWord 27 = .ok (.goto (-25), 3) := fo_dd DX2_acceptsWord_0 15 rfl
theorem dX2_acceptsWord_30 : decode cX2_acceptsWord 30 = .ok (.iconst 1, 1) := fo_dd DX2_acceptsWord_0 16 rfl
theorem dX2_acceptsWord_31 : decode cX2_acceptsWord 31 = .ok (.ireturn, 1) := fo_dd DX2_acceptsWord_0 17 rfl
theorem DX3_init_0 : fo_dl cX3_init [(0, .aload_n 0, 1), (1, .invokespecial 3, 3), (4, .aload_n 0, 1), (5, .iconst 4, 1), (6, .newarray .int, 2), (8, .putfield 9, 3), (11, .aload_n 0, 1), (12, .iconst 4, 1), (13, .newarray .double, 2), (15, .putfield 15, 3), (18, .aload_n 0, 1), (19, .iconst 4, 1), (20, .newarray .int, 2), (22, .putfield 19, 3), (25, .return_, 1)] := by decide +kernel
theorem dX3_init_0 : decode cX3_init 0 = .ok (.aload_n 0, 1) := fo_dd DX3_init_0 0 rfl
theorem dX3_init_1 : decode cX3_init 1 = .ok (.invokespecial 3, 3) := fo_dd DX3_init_0 1 rfl
theorem dX3_init_4 : decode cX3_init 4 = .ok (.aload_n 0, 1) := fo_dd DX3_init_0 2 rfl
theorem dX3_init_5 : decode cX3_init 5 = .ok (.iconst 4, 1) := fo_dd DX3_init_0 3 rfl
theorem dX3_init_6 : decode cX3_init 6 = .ok (.newarray .int, 2) := fo_dd DX3_init_0 4 rfl
theorem dX3_init_8 : decode cX3_init 8 = .ok (.putfield 9, 3) := fo_dd DX3_init_0 5 rfl
theorem dX3_init_11 : decode cX3_init 11 = .ok (.aload_n 0, 1) := fo_dd DX3_init_0 6 rfl
theorem dX3_init_12 : decode cX3_init 12 = .ok (.iconst 4, 1) := fo_dd DX3_init_0 7 rfl
theorem dX3_init_13 : decode cX3_init 13 = .ok (.newarray .double, 2) := fo_dd DX3_init_0 8 rfl
theorem dX3_init_15 : decode cX3_init 15 = .ok (.putfield 15, 3) := fo_dd DX3_init_0 9 rfl
theorem dX3_init_18 : decode cX3_init 18 = .ok (.aload_n 0, 1) := fo_dd DX3_init_0 10 rfl
theorem dX3_init_19 : decode cX3_init 19 = .ok (.iconst 4, 1) := fo_dd DX3_init_0 11 rfl
theorem dX3_init_20 : decode cX3_init 20 = .ok (.newarray .int, 2) := fo_dd DX3_init_0 12 rfl
theorem dX3_init_22 : decode cX3_init 22 = .ok (.putfield 19, 3) := fo_dd DX3_init_0 13 rfl
theorem dX3_init_25 : decode cX3_init 25 = .ok (.return_, 1) := fo_dd DX3_init_0 14 rfl
theorem DX3_copyFrom_0 : fo_dl cX3_copyFrom [(0, .aload_n 0, 1), (1, .aload_n 1, 1), (2, .getfield 22, 3), (5, .putfield 22, 3), (8, .aload_n 0, 1), (9, .aload_n 1, 1), (10, .getfield 26, 3), (13, .putfield 26, 3), (16, .aload_n 1, 1), (17, .getfield 9, 3), (20, .iconst 0, 1), (21, .aload_n 0, 1), (22, .getfield 9, 3), (25, .iconst 0, 1), (26, .iconst 4, 1), (27, .invokestatic 30, 3), (30, .aload_n 1, 1), (31, .getfield 15, 3), (34, .iconst 0, 1), (35, .aload_n 0, 1), (36, .getfield 15, 3), (39, .iconst 0, 1), (40, .iconst 4, 1), (41, .invokestatic 30, 3), (44, .aload_n 1, 1), (45, .getfield 19, 3), (48, .iconst 0, 1), (49, .aload_n 0, 1), (50, .getfield 19, 3), (53, .iconst 0, 1), (54, .iconst 4, 1), (55, .invokestatic 30, 3), (58, .return_, 1)] := by decide +kernel
theorem dX3_copyFrom_0 : decode cX3_copyFrom 0 = .ok (.aload_n 0, 1) := fo_dd DX3_copyFrom_0 0 rfl
theorem dX3_copyFrom_1 : decode cX3_copyFrom 1 = .ok (.aload_n 1, 1) := fo_dd DX3_copyFrom_0 1 rfl
theorem dX3_copyFrom_2 : decode cX3_copyFrom 2 = .ok (.getfield 22, 3) := fo_dd DX3_copyFrom_0 2 rfl
theorem dX3_copyFrom_5 : decode cX3_copyFrom 5 = .ok (.putfield 22, 3) := fo_dd DX3_copyFrom_0 3 rfl
theorem dX3_copyFrom_8 : decode cX3_copyFrom 8 = .ok (.aload_n 0, 1) := fo_dd DX3_copyFrom_0 4 rfl
theorem dX3_copyFrom_9 : decode cX3_copyFrom 9 = .ok (.aload_n 1, 1) := fo_dd DX3_copyFrom_0 5 rfl
theorem dX3_copyFrom_10 : decode cX3_copyFrom 10 = .ok (.getfield 26, 3) := fo_dd DX3_copyFrom_0 6 rfl
theorem dX3_copyFrom_13 : decode cX3_copyFrom 13 = .ok (.putfield 26, 3) := fo_dd DX3_copyFrom_0 7 rfl
theorem dX3_copyFrom_16 : decode cX3_copyFrom 16 = .ok (.aload_n 1, 1) := fo_dd DX3_copyFrom_0 8 rfl
theorem dX3_copyFrom_17 : decode cX3_copyFrom 17 = .ok (.getfield 9, 3) := fo_dd DX3_copyFrom_0 9 rfl
theorem dX3_copyFrom_20 : decode cX3_copyFrom 20 = .ok (.iconst 0, 1) := fo_dd DX3_copyFrom_0 10 rfl
theorem dX3_copyFrom_21 : decode cX3_copyFrom 21 = .ok (.aload_n 0, 1) := fo_dd DX3_copyFrom_0 11 rfl
theorem dX3_copyFrom_22 : decode cX3_copyFrom 22 = .ok (.getfield 9, 3) := fo_dd DX3_copyFrom_0 12 rfl
theorem dX3_copyFrom_25 : decode cX3_copyFrom 25 = .ok (.iconst 0, 1) := fo_dd DX3_copyFrom_0 13 rfl
theorem dX3_copyFrom_26 : decode cX3_copyFrom 26 = .ok (.iconst 4, 1) := fo_dd DX3_copyFrom_0 14 rfl
theorem dX3_copyFrom_27 : decode cX3_copyFrom 27 = .ok (.invokestatic 30, 3) := fo_dd DX3_copyFrom_0 15 rfl
theorem dX3_copyFrom_30 : decode cX3_copyFrom 30 = .ok (.aload_n 1, 1) := fo_dd DX3_copyFrom_0 16 rfl
theorem dX3_copyFrom_31 : decode cX3_copyFrom 31 = .ok (.getfield 15, 3) := fo_dd DX3_copyFrom_0 17 rfl
theorem dX3_copyFrom_34 : decode cX3_copyFrom 34 = .ok (.iconst 0, 1) := fo_dd DX3_copyFrom_0 18 rfl
theorem dX3_copyFrom_35 : decode cX3_copyFrom 35 = .ok (.aload_n 0, 1) := fo_dd DX3_copyFrom_0 19 rfl
theorem dX3_copyFrom_36 : decode cX3_copyFrom 36 = .ok (.getfield 15, 3) := fo_dd DX3_copyFrom_0 20 rfl
theorem dX3_copyFrom_39 : decode cX3_copyFrom 39 = .ok (.iconst 0, 1) := fo_dd DX3_copyFrom_0 21 rfl
theorem dX3_copyFrom_40 : decode cX3_copyFrom 40 = .ok (.iconst 4, 1) := fo_dd DX3_copyFrom_0 22 rfl
theorem dX3_copyFrom_41 : decode cX3_copyFrom 41 = .ok (.invokestatic 30, 3) := fo_dd DX3_copyFrom_0 23 rfl
theorem dX3_copyFrom_44 : decode cX3_copyFrom 44 = .ok (.aload_n 1, 1) := fo_dd DX3_copyFrom_0 24 rfl
theorem dX3_copyFrom_45 : decode cX3_copyFrom 45 = .ok (.getfield 19, 3) := fo_dd DX3_copyFrom_0 25 rfl
theorem dX3_copyFrom_48 : decode cX3_copyFrom 48 = .ok (.iconst 0, 1) := fo_dd DX3_copyFrom_0 26 rfl
theorem dX3_copyFrom_49 : decode cX3_copyFrom 49 = .ok (.aload_n 0, 1) := fo_dd DX3_copyFrom_0 27 rfl
theorem dX3_copyFrom_50 : decode cX3_copyFrom 50 = .ok (.getfield 19, 3) := fo_dd DX3_copyFrom_0 28 rfl
theorem dX3_copyFrom_53 : decode cX3_copyFrom 53 = .ok (.iconst 0, 1) := fo_dd DX3_copyFrom_0 29 rfl
theorem dX3_copyFrom_54 : decode cX3_copyFrom 54 = .ok (.iconst 4, 1) := fo_dd DX3_copyFrom_0 30 rfl
theorem dX3_copyFrom_55 : decode cX3_copyFrom 55 = .ok (.invokestatic 30, 3) := fo_dd DX3_copyFrom_0 31 rfl
theorem dX3_copyFrom_58 : decode cX3_copyFrom 58 = .ok (.return_, 1) := fo_dd DX3_copyFrom_0 32 rfl
theorem DX3_begin_0 : fo_dl cX3_begin [(0, .aload_n 0, 1), (1, .iload_n 1, 1), (2, .putfield 22, 3), (5, .aload_n 0, 1), (6, .iload_n 2, 1), (7, .putfield 26, 3), (10, .iconst 0, 1), (11, .istore_n 3, 1), (12, .iload_n 3, 1), (13, .iconst 4, 1), (14, .if_icmp .ge 14, 3), (17, .aload_n 0, 1), (18, .iload_n 3, 1), (19, .invokevirtual 36, 3), (22, .iinc 3 1, 3), (25, .goto (-13), 3), (28, .return_, 1)] := by decide +kernel
theorem dX3_begin_0 : decode cX3_begin 0 = .ok (.aload_n 0, 1) := fo_dd DX3_begin_0 0 rfl
theorem dX3_begin_1 : decode cX3_begin 1 = .ok (.iload_n 1, 1) := fo_dd DX3_begin_0 1 rfl
theorem dX3_begin_2 : decode cX3_begin 2 = .ok (.putfield 22, 3) := fo_dd DX3_begin_0 2 rfl
theorem dX3_begin_5 : decode cX3_begin 5 = .ok (.aload_n 0, 1) := fo_dd DX3_begin_0 3 rfl
theorem dX3_begin_6 : decode cX3_begin 6 = .ok (.iload_n 2, 1) := fo_dd DX3_begin_0 4 rfl
theorem dX3_begin_7 : decode cX3_begin 7 = .ok (.putfield 26, 3) := fo_dd DX3_begin_0 5 rfl
theorem dX3_begin_10 : decode cX3_begin 10 = .ok (.iconst 0, 1) := fo_dd DX3_begin_0 6 rfl
theorem dX3_begin_11 : decode cX3_begin 11 = .ok (.istore_n 3, 1) := fo_dd DX3_begin_0 7 rfl
theorem dX3_begin_12 : decode cX3_begin 12 = .ok (.iload_n 3, 1) := fo_dd DX3_begin_0 8 rfl
theorem dX3_begin_13 : decode cX3_begin 13 = .ok (.iconst 4, 1) := fo_dd DX3_begin_0 9 rfl
theorem dX3_begin_14 : decode cX3_begin 14 = .ok (.if_icmp .ge 14, 3) := fo_dd DX3_begin_0 10 rfl
theorem dX3_begin_17 : decode cX3_begin 17 = .ok (.aload_n 0, 1) := fo_dd DX3_begin_0 11 rfl
theorem dX3_begin_18 : decode cX3_begin 18 = .ok (.iload_n 3, 1) := fo_dd DX3_begin_0 12 rfl
theorem dX3_begin_19 : decode cX3_begin 19 = .ok (.invokevirtual 36, 3) := fo_dd DX3_begin_0 13 rfl
theorem dX3_begin_22 : decode cX3_begin 22 = .ok (.iinc 3 1, 3) := fo_dd DX3_begin_0 14 rfl
theorem dX3_begin_25 : decode cX3_begin 25 = .ok (.goto (-13), 3) := fo_dd DX3_begin_0 15 rfl
theorem dX3_begin_28 : decode cX3_begin 28 = .ok (.return_, 1) := fo_dd DX3_begin_0 16 rfl
theorem DX3_wipeScores_0 : fo_dl cX3_wipeScores [(0, .aload_n 0, 1), (1, .getfield 9, 3), (4, .iload_n 1, 1), (5, .iconst 0, 1), (6, .iastore, 1), (7, .aload_n 0, 1), (8, .getfield 15, 3), (11, .iload_n 1, 1), (12, .dconst 0, 1), (13, .dastore, 1), (14, .aload_n 0, 1), (15, .getfield 19, 3), (18, .iload_n 1, 1), (19, .iconst 0, 1), (20, .iastore, 1), (21, .return_, 1)] := by decide +kernel
theorem dX3_wipeScores_0 : decode cX3_wipeScores 0 = .ok (.aload_n 0, 1) := fo_dd DX3_wipeScores_0 0 rfl
theorem dX3_wipeScores_1 : decode cX3_wipeScores 1 = .ok (.getfield 9, 3) := fo_dd DX3_wipeScores_0 1 rfl
theorem dX3_wipeScores_4 : decode cX3_wipeScores 4 = .ok (.iload_n 1, 1) := fo_dd DX3_wipeScores_0 2 rfl
theorem dX3_wipeScores_5 : decode cX3_wipeScores 5 = .ok (.iconst 0, 1) := fo_dd DX3_wipeScores_0 3 rfl
theorem dX3_wipeScores_6 : decode cX3_wipeScores 6 = .ok (.iastore, 1) := fo_dd DX3_wipeScores_0 4 rfl
theorem dX3_wipeScores_7 : decode cX3_wipeScores 7 = .ok (.aload_n 0, 1) := fo_dd DX3_wipeScores_0 5 rfl
theorem dX3_wipeScores_8 : decode cX3_wipeScores 8 = .ok (.getfield 15, 3) := fo_dd DX3_wipeScores_0 6 rfl
theorem dX3_wipeScores_11 : decode cX3_wipeScores 11 = .ok (.iload_n 1, 1) := fo_dd DX3_wipeScores_0 7 rfl
theorem dX3_wipeScores_12 : decode cX3_wipeScores 12 = .ok (.dconst 0, 1) := fo_dd DX3_wipeScores_0 8 rfl
theorem dX3_wipeScores_13 : decode cX3_wipeScores 13 = .ok (.dastore, 1) := fo_dd DX3_wipeScores_0 9 rfl
theorem dX3_wipeScores_14 : decode cX3_wipeScores 14 = .ok (.aload_n 0, 1) := fo_dd DX3_wipeScores_0 10 rfl
theorem dX3_wipeScores_15 : decode cX3_wipeScores 15 = .ok (.getfield 19, 3) := fo_dd DX3_wipeScores_0 11 rfl
theorem dX3_wipeScores_18 : decode cX3_wipeScores 18 = .ok (.iload_n 1, 1) := fo_dd DX3_wipeScores_0 12 rfl
theorem dX3_wipeScores_19 : decode cX3_wipeScores 19 = .ok (.iconst 0, 1) := fo_dd DX3_wipeScores_0 13 rfl
theorem dX3_wipeScores_20 : decode cX3_wipeScores 20 = .ok (.iastore, 1) := fo_dd DX3_wipeScores_0 14 rfl
theorem dX3_wipeScores_21 : decode cX3_wipeScores 21 = .ok (.return_, 1) := fo_dd DX3_wipeScores_0 15 rfl
theorem DX3_usesParameter_0 : fo_dl cX3_usesParameter [(0, .aload_n 0, 1), (1, .getfield 22, 3), (4, .bipush 109, 2), (6, .if_icmp .eq 21, 3), (9, .aload_n 0, 1), (10, .getfield 22, 3), (13, .bipush 100, 2), (15, .if_icmp .eq 12, 3), (18, .aload_n 0, 1), (19, .getfield 22, 3), (22, .bipush 115, 2), (24, .if_icmp .ne 7, 3), (27, .iconst 1, 1), (28, .goto 4, 3), (31, .iconst 0, 1), (32, .ireturn, 1)] := by decide +kernel
theorem dX3_usesParameter_0 : decode cX3_usesParameter 0 = .ok (.aload_n 0, 1) := fo_dd DX3_usesParameter_0 0 rfl
theorem dX3_usesParameter_1 : decode cX3_usesParameter 1 = .ok (.getfield 22, 3) := fo_dd DX3_usesParameter_0 1 rfl
theorem dX3_usesParameter_4 : decode cX3_usesParameter 4 = .ok (.bipush 109, 2) := fo_dd DX3_usesParameter_0 2 rfl
theorem dX3_usesParameter_6 : decode cX3_usesParameter 6 = .ok (.if_icmp .eq 21, 3) := fo_dd DX3_usesParameter_0 3 rfl
theorem dX3_usesParameter_9 : decode cX3_usesParameter 9 = .ok (.aload_n 0, 1) := fo_dd DX3_usesParameter_0 4 rfl
theorem dX3_usesParameter_10 : decode cX3_usesParameter 10 = .ok (.getfield 22, 3) := fo_dd DX3_usesParameter_0 5 rfl
theorem dX3_usesParameter_13 : decode cX3_usesParameter 13 = .ok (.bipush 100, 2) := fo_dd DX3_usesParameter_0 6 rfl
theorem dX3_usesParameter_15 : decode cX3_usesParameter 15 = .ok (.if_icmp .eq 12, 3) := fo_dd DX3_usesParameter_0 7 rfl
theorem dX3_usesParameter_18 : decode cX3_usesParameter 18 = .ok (.aload_n 0, 1) := fo_dd DX3_usesParameter_0 8 rfl
theorem dX3_usesParameter_19 : decode cX3_usesParameter 19 = .ok (.getfield 22, 3) := fo_dd DX3_usesParameter_0 9 rfl
theorem dX3_usesParameter_22 : decode cX3_usesParameter 22 = .ok (.bipush 115, 2) := fo_dd DX3_usesParameter_0 10 rfl
theorem dX3_usesParameter_24 : decode cX3_usesParameter 24 = .ok (.if_icmp .ne 7, 3) := fo_dd DX3_usesParameter_0 11 rfl
theorem dX3_usesParameter_27 : decode cX3_usesParameter 27 = .ok (.iconst 1, 1) := fo_dd DX3_usesParameter_0 12 rfl
theorem dX3_usesParameter_28 : decode cX3_usesParameter 28 = .ok (.goto 4, 3) := fo_dd DX3_usesParameter_0 13 rfl
theorem dX3_usesParameter_31 : decode cX3_usesParameter 31 = .ok (.iconst 0, 1) := fo_dd DX3_usesParameter_0 14 rfl
theorem dX3_usesParameter_32 : decode cX3_usesParameter 32 = .ok (.ireturn, 1) := fo_dd DX3_usesParameter_0 15 rfl
theorem DX3_neededValues_0 : fo_dl cX3_neededValues [(0, .aload_n 0, 1), (1, .getfield 22, 3), (4, .lookupswitch 43 #[(100, 36), (109, 36), (116, 41)], 36), (40, .aload_n 0, 1), (41, .getfield 26, 3), (44, .ireturn, 1), (45, .iconst 2, 1), (46, .ireturn, 1), (47, .iconst 1, 1), (48, .ireturn, 1)] := by decide +kernel
theorem dX3_neededValues_0 : decode cX3_neededValues 0 = .ok (.aload_n 0, 1) := fo_dd DX3_neededValues_0 0 rfl
theorem dX3_neededValues_1 : decode cX3_neededValues 1 = .ok (.getfield 22, 3) := fo_dd DX3_neededValues_0 1 rfl
theorem dX3_neededValues_4 : decode cX3_neededValues 4 = .ok (.lookupswitch 43 #[(100, 36), (109, 36), (116, 41)], 36) := fo_dd DX3_neededValues_0 2 rfl
theorem dX3_neededValues_40 : decode cX3_neededValues 40 = .ok (.aload_n 0, 1) := fo_dd DX3_neededValues_0 3 rfl
theorem dX3_neededValues_41 : decode cX3_neededValues 41 = .ok (.getfield 26, 3) := fo_dd DX3_neededValues_0 4 rfl
theorem dX3_neededValues_44 : decode cX3_neededValues 44 = .ok (.ireturn, 1) := fo_dd DX3_neededValues_0 5 rfl
theorem dX3_neededValues_45 : decode cX3_neededValues 45 = .ok (.iconst 2, 1) := fo_dd DX3_neededValues_0 6 rfl
theorem dX3_neededValues_46 : decode cX3_neededValues 46 = .ok (.ireturn, 1) := fo_dd DX3_neededValues_0 7 rfl
theorem dX3_neededValues_47 : decode cX3_neededValues 47 = .ok (.iconst 1, 1) := fo_dd DX3_neededValues_0 8 rfl
theorem dX3_neededValues_48 : decode cX3_neededValues 48 = .ok (.ireturn, 1) := fo_dd DX3_neededValues_0 9 rfl
theorem DX3_foresees_0 : fo_dl cX3_foresees [(0, .iload_n 1, 1), (1, .aload_n 0, 1), (2, .invokevirtual 40, 3), (5, .if_icmp .lt 7, 3), (8, .iconst 1, 1), (9, .goto 4, 3), (12, .iconst 0, 1), (13, .ireturn, 1)] := by decide +kernel
theorem dX3_foresees_0 : decode cX3_foresees 0 = .ok (.iload_n 1, 1) := fo_dd DX3_foresees_0 0 rfl
theorem dX3_foresees_1 : decode cX3_foresees 1 = .ok (.aload_n 0, 1) := fo_dd DX3_foresees_0 1 rfl
theorem dX3_foresees_2 : decode cX3_foresees 2 = .ok (.invokevirtual 40, 3) := fo_dd DX3_foresees_0 2 rfl
theorem dX3_foresees_5 : decode cX3_foresees 5 = .ok (.if_icmp .lt 7, 3) := fo_dd DX3_foresees_0 3 rfl
theorem dX3_foresees_8 : decode cX3_foresees 8 = .ok (.iconst 1, 1) := fo_dd DX3_foresees_0 4 rfl
theorem dX3_foresees_9 : decode cX3_foresees 9 = .ok (.goto 4, 3) := fo_dd DX3_foresees_0 5 rfl
theorem dX3_foresees_12 : decode cX3_foresees 12 = .ok (.iconst 0, 1) := fo_dd DX3_foresees_0 6 rfl
theorem dX3_foresees_13 : decode cX3_foresees 13 = .ok (.ireturn, 1) := fo_dd DX3_foresees_0 7 rfl
theorem DX3_foretell_0 : fo_dl cX3_foretell [(0, .aload_n 0, 1), (1, .getfield 22, 3), (4, .lookupswitch 105 #[(100, 54), (109, 44), (115, 95), (116, 74)], 44), (48, .aload_n 1, 1), (49, .iload_n 2, 1), (50, .aload_n 0, 1), (51, .getfield 26, 3), (54, .invokevirtual 44, 3), (57, .dreturn, 1), (58, .aload_n 1, 1), (59, .aload_n 1, 1), (60, .getfield 50, 3), (63, .iload_n 2, 1), (64, .aload_n 0, 1), (65, .getfield 26, 3), (68, .isub, 1), (69, .aload_n 0, 1), (70, .getfield 26, 3), (73, .invokevirtual 53, 3), (76, .i2d, 1), (77, .dreturn, 1), (78, .iconst 2, 1), (79, .aload_n 1, 1), (80, .getfield 50, 3), (83, .iload_n 2, 1), (84, .iconst 1, 1), (85, .isub, 1), (86, .iaload, 1), (87, .imul, 1), (88, .aload_n 1, 1), (89, .getfield 50, 3), (92, .iload_n 2, 1), (93, .iconst 2, 1), (94, .isub, 1), (95, .iaload, 1), (96, .isub, 1), (97, .i2d, 1), (98, .dreturn, 1), (99, .aload_n 1, 1), (100, .iload_n 2, 1), (101, .aload_n 0, 1), (102, .getfield 26, 3), (105, .invokevirtual 57, 3), (108, .dreturn, 1), (109, .aload_n 1, 1), (110, .getfield 50, 3), (113, .iload_n 2, 1), (114, .iconst 1, 1), (115, .isub, 1), (116, .iaload, 1), (117, .i2d, 1), (118, .dreturn, 1)] := by decide +kernel
theorem dX3_foretell_0 : decode cX3_foretell 0 = .ok (.aload_n 0, 1) := fo_dd DX3_foretell_0 0 rfl
theorem dX3_foretell_1 : decode cX3_foretell 1 = .ok (.getfield 22, 3) := fo_dd DX3_foretell_0 1 rfl
theorem dX3_foretell_4 : decode cX3_foretell 4 = .ok (.lookupswitch 105 #[(100, 54), (109, 44), (115, 95), (116, 74)], 44) := fo_dd DX3_foretell_0 2 rfl
theorem dX3_foretell_48 : decode cX3_foretell 48 = .ok (.aload_n 1, 1) := fo_dd DX3_foretell_0 3 rfl
theorem dX3_foretell_49 : decode cX3_foretell 49 = .ok (.iload_n 2, 1) := fo_dd DX3_foretell_0 4 rfl
theorem dX3_foretell_50 : decode cX3_foretell 50 = .ok (.aload_n 0, 1) := fo_dd DX3_foretell_0 5 rfl
theorem dX3_foretell_51 : decode cX3_foretell 51 = .ok (.getfield 26, 3) := fo_dd DX3_foretell_0 6 rfl
theorem dX3_foretell_54 : decode cX3_foretell 54 = .ok (.invokevirtual 44, 3) := fo_dd DX3_foretell_0 7 rfl
theorem dX3_foretell_57 : decode cX3_foretell 57 = .ok (.dreturn, 1) := fo_dd DX3_foretell_0 8 rfl
theorem dX3_foretell_58 : decode cX3_foretell 58 = .ok (.aload_n 1, 1) := fo_dd DX3_foretell_0 9 rfl
theorem dX3_foretell_59 : decode cX3_foretell 59 = .ok (.aload_n 1, 1) := fo_dd DX3_foretell_0 10 rfl
theorem dX3_foretell_60 : decode cX3_foretell 60 = .ok (.getfield 50, 3) := fo_dd DX3_foretell_0 11 rfl
theorem dX3_foretell_63 : decode cX3_foretell 63 = .ok (.iload_n 2, 1) := fo_dd DX3_foretell_0 12 rfl
theorem dX3_foretell_64 : decode cX3_foretell 64 = .ok (.aload_n 0, 1) := fo_dd DX3_foretell_0 13 rfl
theorem dX3_foretell_65 : decode cX3_foretell 65 = .ok (.getfield 26, 3) := fo_dd DX3_foretell_0 14 rfl
theorem dX3_foretell_68 : decode cX3_foretell 68 = .ok (.isub, 1) := fo_dd DX3_foretell_0 15 rfl
theorem dX3_foretell_69 : decode cX3_foretell 69 = .ok (.aload_n 0, 1) := fo_dd DX3_foretell_0 16 rfl
theorem dX3_foretell_70 : decode cX3_foretell 70 = .ok (.getfield 26, 3) := fo_dd DX3_foretell_0 17 rfl
theorem dX3_foretell_73 : decode cX3_foretell 73 = .ok (.invokevirtual 53, 3) := fo_dd DX3_foretell_0 18 rfl
theorem dX3_foretell_76 : decode cX3_foretell 76 = .ok (.i2d, 1) := fo_dd DX3_foretell_0 19 rfl
theorem dX3_foretell_77 : decode cX3_foretell 77 = .ok (.dreturn, 1) := fo_dd DX3_foretell_0 20 rfl
theorem dX3_foretell_78 : decode cX3_foretell 78 = .ok (.iconst 2, 1) := fo_dd DX3_foretell_0 21 rfl
theorem dX3_foretell_79 : decode cX3_foretell 79 = .ok (.aload_n 1, 1) := fo_dd DX3_foretell_0 22 rfl
theorem dX3_foretell_80 : decode cX3_foretell 80 = .ok (.getfield 50, 3) := fo_dd DX3_foretell_0 23 rfl
theorem dX3_foretell_83 : decode cX3_foretell 83 = .ok (.iload_n 2, 1) := fo_dd DX3_foretell_0 24 rfl
theorem dX3_foretell_84 : decode cX3_foretell 84 = .ok (.iconst 1, 1) := fo_dd DX3_foretell_0 25 rfl
theorem dX3_foretell_85 : decode cX3_foretell 85 = .ok (.isub, 1) := fo_dd DX3_foretell_0 26 rfl
theorem dX3_foretell_86 : decode cX3_foretell 86 = .ok (.iaload, 1) := fo_dd DX3_foretell_0 27 rfl
theorem dX3_foretell_87 : decode cX3_foretell 87 = .ok (.imul, 1) := fo_dd DX3_foretell_0 28 rfl
theorem dX3_foretell_88 : decode cX3_foretell 88 = .ok (.aload_n 1, 1) := fo_dd DX3_foretell_0 29 rfl
theorem dX3_foretell_89 : decode cX3_foretell 89 = .ok (.getfield 50, 3) := fo_dd DX3_foretell_0 30 rfl
theorem dX3_foretell_92 : decode cX3_foretell 92 = .ok (.iload_n 2, 1) := fo_dd DX3_foretell_0 31 rfl
theorem dX3_foretell_93 : decode cX3_foretell 93 = .ok (.iconst 2, 1) := fo_dd DX3_foretell_0 32 rfl
theorem dX3_foretell_94 : decode cX3_foretell 94 = .ok (.isub, 1) := fo_dd DX3_foretell_0 33 rfl
theorem dX3_foretell_95 : decode cX3_foretell 95 = .ok (.iaload, 1) := fo_dd DX3_foretell_0 34 rfl
theorem dX3_foretell_96 : decode cX3_foretell 96 = .ok (.isub, 1) := fo_dd DX3_foretell_0 35 rfl
theorem dX3_foretell_97 : decode cX3_foretell 97 = .ok (.i2d, 1) := fo_dd DX3_foretell_0 36 rfl
theorem dX3_foretell_98 : decode cX3_foretell 98 = .ok (.dreturn, 1) := fo_dd DX3_foretell_0 37 rfl
theorem dX3_foretell_99 : decode cX3_foretell 99 = .ok (.aload_n 1, 1) := fo_dd DX3_foretell_0 38 rfl
theorem dX3_foretell_100 : decode cX3_foretell 100 = .ok (.iload_n 2, 1) := fo_dd DX3_foretell_0 39 rfl
theorem dX3_foretell_101 : decode cX3_foretell 101 = .ok (.aload_n 0, 1) := fo_dd DX3_foretell_0 40 rfl
theorem dX3_foretell_102 : decode cX3_foretell 102 = .ok (.getfield 26, 3) := fo_dd DX3_foretell_0 41 rfl
theorem dX3_foretell_105 : decode cX3_foretell 105 = .ok (.invokevirtual 57, 3) := fo_dd DX3_foretell_0 42 rfl
theorem dX3_foretell_108 : decode cX3_foretell 108 = .ok (.dreturn, 1) := fo_dd DX3_foretell_0 43 rfl
theorem dX3_foretell_109 : decode cX3_foretell 109 = .ok (.aload_n 1, 1) := fo_dd DX3_foretell_0 44 rfl
theorem dX3_foretell_110 : decode cX3_foretell 110 = .ok (.getfield 50, 3) := fo_dd DX3_foretell_0 45 rfl
theorem dX3_foretell_113 : decode cX3_foretell 113 = .ok (.iload_n 2, 1) := fo_dd DX3_foretell_0 46 rfl
theorem dX3_foretell_114 : decode cX3_foretell 114 = .ok (.iconst 1, 1) := fo_dd DX3_foretell_0 47 rfl
theorem dX3_foretell_115 : decode cX3_foretell 115 = .ok (.isub, 1) := fo_dd DX3_foretell_0 48 rfl
theorem dX3_foretell_116 : decode cX3_foretell 116 = .ok (.iaload, 1) := fo_dd DX3_foretell_0 49 rfl
theorem dX3_foretell_117 : decode cX3_foretell 117 = .ok (.i2d, 1) := fo_dd DX3_foretell_0 50 rfl
theorem dX3_foretell_118 : decode cX3_foretell 118 = .ok (.dreturn, 1) := fo_dd DX3_foretell_0 51 rfl
theorem DX3_errorOn_0 : fo_dl cX3_errorOn [(0, .aload_n 0, 1), (1, .aload_n 1, 1), (2, .iload_n 2, 1), (3, .invokevirtual 60, 3), (6, .aload_n 1, 1), (7, .getfield 50, 3), (10, .iload_n 2, 1), (11, .iaload, 1), (12, .i2d, 1), (13, .dsub, 1), (14, .dstore_n 3, 1), (15, .dload_n 3, 1), (16, .dconst 0, 1), (17, .dcmp .g, 1), (18, .ifCond .ge 8, 3), (21, .dload_n 3, 1), (22, .dneg, 1), (23, .goto 4, 3), (26, .dload_n 3, 1), (27, .dreturn, 1)] := by decide +kernel
theorem dX3_errorOn_0 : decode cX3_errorOn 0 = .ok (.aload_n 0, 1) := fo_dd DX3_errorOn_0 0 rfl
theorem dX3_errorOn_1 : decode cX3_errorOn 1 = .ok (.aload_n 1, 1) := fo_dd DX3_errorOn_0 1 rfl
theorem dX3_errorOn_2 : decode cX3_errorOn 2 = .ok (.iload_n 2, 1) := fo_dd DX3_errorOn_0 2 rfl
theorem dX3_errorOn_3 : decode cX3_errorOn 3 = .ok (.invokevirtual 60, 3) := fo_dd DX3_errorOn_0 3 rfl
theorem dX3_errorOn_6 : decode cX3_errorOn 6 = .ok (.aload_n 1, 1) := fo_dd DX3_errorOn_0 4 rfl
theorem dX3_errorOn_7 : decode cX3_errorOn 7 = .ok (.getfield 50, 3) := fo_dd DX3_errorOn_0 5 rfl
theorem dX3_errorOn_10 : decode cX3_errorOn 10 = .ok (.iload_n 2, 1) := fo_dd DX3_errorOn_0 6 rfl
theorem dX3_errorOn_11 : decode cX3_errorOn 11 = .ok (.iaload, 1) := fo_dd DX3_errorOn_0 7 rfl
theorem dX3_errorOn_12 : decode cX3_errorOn 12 = .ok (.i2d, 1) := fo_dd DX3_errorOn_0 8 rfl
theorem dX3_errorOn_13 : decode cX3_errorOn 13 = .ok (.dsub, 1) := fo_dd DX3_errorOn_0 9 rfl
theorem dX3_errorOn_14 : decode cX3_errorOn 14 = .ok (.dstore_n 3, 1) := fo_dd DX3_errorOn_0 10 rfl
theorem dX3_errorOn_15 : decode cX3_errorOn 15 = .ok (.dload_n 3, 1) := fo_dd DX3_errorOn_0 11 rfl
theorem dX3_errorOn_16 : decode cX3_errorOn 16 = .ok (.dconst 0, 1) := fo_dd DX3_errorOn_0 12 rfl
theorem dX3_errorOn_17 : decode cX3_errorOn 17 = .ok (.dcmp .g, 1) := fo_dd DX3_errorOn_0 13 rfl
theorem dX3_errorOn_18 : decode cX3_errorOn 18 = .ok (.ifCond .ge 8, 3) := fo_dd DX3_errorOn_0 14 rfl
theorem dX3_errorOn_21 : decode cX3_errorOn 21 = .ok (.dload_n 3, 1) := fo_dd DX3_errorOn_0 15 rfl
theorem dX3_errorOn_22 : decode cX3_errorOn 22 = .ok (.dneg, 1) := fo_dd DX3_errorOn_0 16 rfl
theorem dX3_errorOn_23 : decode cX3_errorOn 23 = .ok (.goto 4, 3) := fo_dd DX3_errorOn_0 17 rfl
theorem dX3_errorOn_26 : decode cX3_errorOn 26 = .ok (.dload_n 3, 1) := fo_dd DX3_errorOn_0 18 rfl
theorem dX3_errorOn_27 : decode cX3_errorOn 27 = .ok (.dreturn, 1) := fo_dd DX3_errorOn_0 19 rfl
theorem DX3_addError_0 : fo_dl cX3_addError [(0, .aload_n 0, 1), (1, .getfield 9, 3), (4, .iload_n 1, 1), (5, .dup2, 1), (6, .iaload, 1), (7, .iconst 1, 1), (8, .iadd, 1), (9, .iastore, 1), (10, .aload_n 0, 1), (11, .getfield 15, 3), (14, .iload_n 1, 1), (15, .aload_n 0, 1), (16, .getfield 15, 3), (19, .iload_n 1, 1), (20, .daload, 1), (21, .dload_n 2, 1), (22, .dadd, 1), (23, .dastore, 1), (24, .return_, 1)] := by decide +kernel
theorem dX3_addError_0 : decode cX3_addError 0 = .ok (.aload_n 0, 1) := fo_dd DX3_addError_0 0 rfl
theorem dX3_addError_1 : decode cX3_addError 1 = .ok (.getfield 9, 3) := fo_dd DX3_addError_0 1 rfl
theorem dX3_addError_4 : decode cX3_addError 4 = .ok (.iload_n 1, 1) := fo_dd DX3_addError_0 2 rfl
theorem dX3_addError_5 : decode cX3_addError 5 = .ok (.dup2, 1) := fo_dd DX3_addError_0 3 rfl
theorem dX3_addError_6 : decode cX3_addError 6 = .ok (.iaload, 1) := fo_dd DX3_addError_0 4 rfl
theorem dX3_addError_7 : decode cX3_addError 7 = .ok (.iconst 1, 1) := fo_dd DX3_addError_0 5 rfl
theorem dX3_addError_8 : decode cX3_addError 8 = .ok (.iadd, 1) := fo_dd DX3_addError_0 6 rfl
theorem dX3_addError_9 : decode cX3_addError 9 = .ok (.iastore, 1) := fo_dd DX3_addError_0 7 rfl
theorem dX3_addError_10 : decode cX3_addError 10 = .ok (.aload_n 0, 1) := fo_dd DX3_addError_0 8 rfl
theorem dX3_addError_11 : decode cX3_addError 11 = .ok (.getfield 15, 3) := fo_dd DX3_addError_0 9 rfl
theorem dX3_addError_14 : decode cX3_addError 14 = .ok (.iload_n 1, 1) := fo_dd DX3_addError_0 10 rfl
theorem dX3_addError_15 : decode cX3_addError 15 = .ok (.aload_n 0, 1) := fo_dd DX3_addError_0 11 rfl
theorem dX3_addError_16 : decode cX3_addError 16 = .ok (.getfield 15, 3) := fo_dd DX3_addError_0 12 rfl
theorem dX3_addError_19 : decode cX3_addError 19 = .ok (.iload_n 1, 1) := fo_dd DX3_addError_0 13 rfl
theorem dX3_addError_20 : decode cX3_addError 20 = .ok (.daload, 1) := fo_dd DX3_addError_0 14 rfl
theorem dX3_addError_21 : decode cX3_addError 21 = .ok (.dload_n 2, 1) := fo_dd DX3_addError_0 15 rfl
theorem dX3_addError_22 : decode cX3_addError 22 = .ok (.dadd, 1) := fo_dd DX3_addError_0 16 rfl
theorem dX3_addError_23 : decode cX3_addError 23 = .ok (.dastore, 1) := fo_dd DX3_addError_0 17 rfl
theorem dX3_addError_24 : decode cX3_addError 24 = .ok (.return_, 1) := fo_dd DX3_addError_0 18 rfl
theorem DX3_backtest_0 : fo_dl cX3_backtest [(0, .dconst 0, 1), (1, .dstore_n 2, 1), (2, .aload_n 0, 1), (3, .invokevirtual 40, 3), (6, .istore 4, 2), (8, .iload 4, 2), (10, .aload_n 1, 1), (11, .getfield 64, 3), (14, .if_icmp .ge 19, 3), (17, .dload_n 2, 1), (18, .aload_n 0, 1), (19, .aload_n 1, 1), (20, .iload 4, 2), (22, .invokevirtual 67, 3), (25, .dadd, 1), (26, .dstore_n 2, 1), (27, .iinc 4 1, 3), (30, .goto (-22), 3), (33, .dload_n 2, 1), (34, .dreturn, 1)] := by decide +kernel
theorem dX3_backtest_0 : decode cX3_backtest 0 = .ok (.dconst 0, 1) := fo_dd DX3_backtest_0 0 rfl
theorem dX3_backtest_1 : decode cX3_backtest 1 = .ok (.dstore_n 2, 1) := fo_dd DX3_backtest_0 1 rfl
theorem dX3_backtest_2 : decode cX3_backtest 2 = .ok (.aload_n 0, 1) := fo_dd DX3_backtest_0 2 rfl
theorem dX3_backtest_3 : decode cX3_backtest 3 = .ok (.invokevirtual 40, 3) := fo_dd DX3_backtest_0 3 rfl
theorem dX3_backtest_6 : decode cX3_backtest 6 = .ok (.istore 4, 2) := fo_dd DX3_backtest_0 4 rfl
theorem dX3_backtest_8 : decode cX3_backtest 8 = .ok (.iload 4, 2) := fo_dd DX3_backtest_0 5 rfl
theorem dX3_backtest_10 : decode cX3_backtest 10 = .ok (.aload_n 1, 1) := fo_dd DX3_backtest_0 6 rfl
theorem dX3_backtest_11 : decode cX3_backtest 11 = .ok (.getfield 64, 3) := fo_dd DX3_backtest_0 7 rfl
theorem dX3_backtest_14 : decode cX3_backtest 14 = .ok (.if_icmp .ge 19, 3) := fo_dd DX3_backtest_0 8 rfl
theorem dX3_backtest_17 : decode cX3_backtest 17 = .ok (.dload_n 2, 1) := fo_dd DX3_backtest_0 9 rfl
theorem dX3_backtest_18 : decode cX3_backtest 18 = .ok (.aload_n 0, 1) := fo_dd DX3_backtest_0 10 rfl
theorem dX3_backtest_19 : decode cX3_backtest 19 = .ok (.aload_n 1, 1) := fo_dd DX3_backtest_0 11 rfl
theorem dX3_backtest_20 : decode cX3_backtest 20 = .ok (.iload 4, 2) := fo_dd DX3_backtest_0 12 rfl
theorem dX3_backtest_22 : decode cX3_backtest 22 = .ok (.invokevirtual 67, 3) := fo_dd DX3_backtest_0 13 rfl
theorem dX3_backtest_25 : decode cX3_backtest 25 = .ok (.dadd, 1) := fo_dd DX3_backtest_0 14 rfl
theorem dX3_backtest_26 : decode cX3_backtest 26 = .ok (.dstore_n 2, 1) := fo_dd DX3_backtest_0 15 rfl
theorem dX3_backtest_27 : decode cX3_backtest 27 = .ok (.iinc 4 1, 3) := fo_dd DX3_backtest_0 16 rfl
theorem dX3_backtest_30 : decode cX3_backtest 30 = .ok (.goto (-22), 3) := fo_dd DX3_backtest_0 17 rfl
theorem dX3_backtest_33 : decode cX3_backtest 33 = .ok (.dload_n 2, 1) := fo_dd DX3_backtest_0 18 rfl
theorem dX3_backtest_34 : decode cX3_backtest 34 = .ok (.dreturn, 1) := fo_dd DX3_backtest_0 19 rfl
theorem DX3_countAllErrors_0 : fo_dl cX3_countAllErrors [(0, .iconst 0, 1), (1, .istore_n 1, 1), (2, .iconst 0, 1), (3, .istore_n 2, 1), (4, .iload_n 2, 1), (5, .iconst 4, 1), (6, .if_icmp .ge 18, 3), (9, .iload_n 1, 1), (10, .aload_n 0, 1), (11, .getfield 9, 3), (14, .iload_n 2, 1), (15, .iaload, 1), (16, .iadd, 1), (17, .istore_n 1, 1), (18, .iinc 2 1, 3), (21, .goto (-17), 3), (24, .iload_n 1, 1), (25, .ireturn, 1)] := by decide +kernel
theorem dX3_countAllErrors_0 : decode cX3_countAllErrors 0 = .ok (.iconst 0, 1) := fo_dd DX3_countAllErrors_0 0 rfl
theorem dX3_countAllErrors_1 : decode cX3_countAllErrors 1 = .ok (.istore_n 1, 1) := fo_dd DX3_countAllErrors_0 1 rfl
theorem dX3_countAllErrors_2 : decode cX3_countAllErrors 2 = .ok (.iconst 0, 1) := fo_dd DX3_countAllErrors_0 2 rfl
theorem dX3_countAllErrors_3 : decode cX3_countAllErrors 3 = .ok (.istore_n 2, 1) := fo_dd DX3_countAllErrors_0 3 rfl
theorem dX3_countAllErrors_4 : decode cX3_countAllErrors 4 = .ok (.iload_n 2, 1) := fo_dd DX3_countAllErrors_0 4 rfl
theorem dX3_countAllErrors_5 : decode cX3_countAllErrors 5 = .ok (.iconst 4, 1) := fo_dd DX3_countAllErrors_0 5 rfl
theorem dX3_countAllErrors_6 : decode cX3_countAllErrors 6 = .ok (.if_icmp .ge 18, 3) := fo_dd DX3_countAllErrors_0 6 rfl
theorem dX3_countAllErrors_9 : decode cX3_countAllErrors 9 = .ok (.iload_n 1, 1) := fo_dd DX3_countAllErrors_0 7 rfl
theorem dX3_countAllErrors_10 : decode cX3_countAllErrors 10 = .ok (.aload_n 0, 1) := fo_dd DX3_countAllErrors_0 8 rfl
theorem dX3_countAllErrors_11 : decode cX3_countAllErrors 11 = .ok (.getfield 9, 3) := fo_dd DX3_countAllErrors_0 9 rfl
theorem dX3_countAllErrors_14 : decode cX3_countAllErrors 14 = .ok (.iload_n 2, 1) := fo_dd DX3_countAllErrors_0 10 rfl
theorem dX3_countAllErrors_15 : decode cX3_countAllErrors 15 = .ok (.iaload, 1) := fo_dd DX3_countAllErrors_0 11 rfl
theorem dX3_countAllErrors_16 : decode cX3_countAllErrors 16 = .ok (.iadd, 1) := fo_dd DX3_countAllErrors_0 12 rfl
theorem dX3_countAllErrors_17 : decode cX3_countAllErrors 17 = .ok (.istore_n 1, 1) := fo_dd DX3_countAllErrors_0 13 rfl
theorem dX3_countAllErrors_18 : decode cX3_countAllErrors 18 = .ok (.iinc 2 1, 3) := fo_dd DX3_countAllErrors_0 14 rfl
theorem dX3_countAllErrors_21 : decode cX3_countAllErrors 21 = .ok (.goto (-17), 3) := fo_dd DX3_countAllErrors_0 15 rfl
theorem dX3_countAllErrors_24 : decode cX3_countAllErrors 24 = .ok (.iload_n 1, 1) := fo_dd DX3_countAllErrors_0 16 rfl
theorem dX3_countAllErrors_25 : decode cX3_countAllErrors 25 = .ok (.ireturn, 1) := fo_dd DX3_countAllErrors_0 17 rfl
theorem DX3_sumAllErrors_0 : fo_dl cX3_sumAllErrors [(0, .dconst 0, 1), (1, .dstore_n 1, 1), (2, .iconst 0, 1), (3, .istore_n 3, 1), (4, .iload_n 3, 1), (5, .iconst 4, 1), (6, .if_icmp .ge 18, 3), (9, .dload_n 1, 1), (10, .aload_n 0, 1), (11, .getfield 15, 3), (14, .iload_n 3, 1), (15, .daload, 1), (16, .dadd, 1), (17, .dstore_n 1, 1), (18, .iinc 3 1, 3), (21, .goto (-17), 3), (24, .dload_n 1, 1), (25, .dreturn, 1)] := by decide +kernel
theorem dX3_sumAllErrors_0 : decode cX3_sumAllErrors 0 = .ok (.dconst 0, 1) := fo_dd DX3_sumAllErrors_0 0 rfl
theorem dX3_sumAllErrors_1 : decode cX3_sumAllErrors 1 = .ok (.dstore_n 1, 1) := fo_dd DX3_sumAllErrors_0 1 rfl
theorem dX3_sumAllErrors_2 : decode cX3_sumAllErrors 2 = .ok (.iconst 0, 1) := fo_dd DX3_sumAllErrors_0 2 rfl
theorem dX3_sumAllErrors_3 : decode cX3_sumAllErrors 3 = .ok (.istore_n 3, 1) := fo_dd DX3_sumAllErrors_0 3 rfl
theorem dX3_sumAllErrors_4 : decode cX3_sumAllErrors 4 = .ok (.iload_n 3, 1) := fo_dd DX3_sumAllErrors_0 4 rfl
theorem dX3_sumAllErrors_5 : decode cX3_sumAllErrors 5 = .ok (.iconst 4, 1) := fo_dd DX3_sumAllErrors_0 5 rfl
theorem dX3_sumAllErrors_6 : decode cX3_sumAllErrors 6 = .ok (.if_icmp .ge 18, 3) := fo_dd DX3_sumAllErrors_0 6 rfl
theorem dX3_sumAllErrors_9 : decode cX3_sumAllErrors 9 = .ok (.dload_n 1, 1) := fo_dd DX3_sumAllErrors_0 7 rfl
theorem dX3_sumAllErrors_10 : decode cX3_sumAllErrors 10 = .ok (.aload_n 0, 1) := fo_dd DX3_sumAllErrors_0 8 rfl
theorem dX3_sumAllErrors_11 : decode cX3_sumAllErrors 11 = .ok (.getfield 15, 3) := fo_dd DX3_sumAllErrors_0 9 rfl
theorem dX3_sumAllErrors_14 : decode cX3_sumAllErrors 14 = .ok (.iload_n 3, 1) := fo_dd DX3_sumAllErrors_0 10 rfl
theorem dX3_sumAllErrors_15 : decode cX3_sumAllErrors 15 = .ok (.daload, 1) := fo_dd DX3_sumAllErrors_0 11 rfl
theorem dX3_sumAllErrors_16 : decode cX3_sumAllErrors 16 = .ok (.dadd, 1) := fo_dd DX3_sumAllErrors_0 12 rfl
theorem dX3_sumAllErrors_17 : decode cX3_sumAllErrors 17 = .ok (.dstore_n 1, 1) := fo_dd DX3_sumAllErrors_0 13 rfl
theorem dX3_sumAllErrors_18 : decode cX3_sumAllErrors 18 = .ok (.iinc 3 1, 3) := fo_dd DX3_sumAllErrors_0 14 rfl
theorem dX3_sumAllErrors_21 : decode cX3_sumAllErrors 21 = .ok (.goto (-17), 3) := fo_dd DX3_sumAllErrors_0 15 rfl
theorem dX3_sumAllErrors_24 : decode cX3_sumAllErrors 24 = .ok (.dload_n 1, 1) := fo_dd DX3_sumAllErrors_0 16 rfl
theorem dX3_sumAllErrors_25 : decode cX3_sumAllErrors 25 = .ok (.dreturn, 1) := fo_dd DX3_sumAllErrors_0 17 rfl
theorem DX3_sumAllPoints_0 : fo_dl cX3_sumAllPoints [(0, .iconst 0, 1), (1, .istore_n 1, 1), (2, .iconst 0, 1), (3, .istore_n 2, 1), (4, .iload_n 2, 1), (5, .iconst 4, 1), (6, .if_icmp .ge 18, 3), (9, .iload_n 1, 1), (10, .aload_n 0, 1), (11, .getfield 19, 3), (14, .iload_n 2, 1), (15, .iaload, 1), (16, .iadd, 1), (17, .istore_n 1, 1), (18, .iinc 2 1, 3), (21, .goto (-17), 3), (24, .iload_n 1, 1), (25, .ireturn, 1)] := by decide +kernel
theorem dX3_sumAllPoints_0 : decode cX3_sumAllPoints 0 = .ok (.iconst 0, 1) := fo_dd DX3_sumAllPoints_0 0 rfl
theorem dX3_sumAllPoints_1 : decode cX3_sumAllPoints 1 = .ok (.istore_n 1, 1) := fo_dd DX3_sumAllPoints_0 1 rfl
theorem dX3_sumAllPoints_2 : decode cX3_sumAllPoints 2 = .ok (.iconst 0, 1) := fo_dd DX3_sumAllPoints_0 2 rfl
theorem dX3_sumAllPoints_3 : decode cX3_sumAllPoints 3 = .ok (.istore_n 2, 1) := fo_dd DX3_sumAllPoints_0 3 rfl
theorem dX3_sumAllPoints_4 : decode cX3_sumAllPoints 4 = .ok (.iload_n 2, 1) := fo_dd DX3_sumAllPoints_0 4 rfl
theorem dX3_sumAllPoints_5 : decode cX3_sumAllPoints 5 = .ok (.iconst 4, 1) := fo_dd DX3_sumAllPoints_0 5 rfl
theorem dX3_sumAllPoints_6 : decode cX3_sumAllPoints 6 = .ok (.if_icmp .ge 18, 3) := fo_dd DX3_sumAllPoints_0 6 rfl
theorem dX3_sumAllPoints_9 : decode cX3_sumAllPoints 9 = .ok (.iload_n 1, 1) := fo_dd DX3_sumAllPoints_0 7 rfl
theorem dX3_sumAllPoints_10 : decode cX3_sumAllPoints 10 = .ok (.aload_n 0, 1) := fo_dd DX3_sumAllPoints_0 8 rfl
theorem dX3_sumAllPoints_11 : decode cX3_sumAllPoints 11 = .ok (.getfield 19, 3) := fo_dd DX3_sumAllPoints_0 9 rfl
theorem dX3_sumAllPoints_14 : decode cX3_sumAllPoints 14 = .ok (.iload_n 2, 1) := fo_dd DX3_sumAllPoints_0 10 rfl
theorem dX3_sumAllPoints_15 : decode cX3_sumAllPoints 15 = .ok (.iaload, 1) := fo_dd DX3_sumAllPoints_0 11 rfl
theorem dX3_sumAllPoints_16 : decode cX3_sumAllPoints 16 = .ok (.iadd, 1) := fo_dd DX3_sumAllPoints_0 12 rfl
theorem dX3_sumAllPoints_17 : decode cX3_sumAllPoints 17 = .ok (.istore_n 1, 1) := fo_dd DX3_sumAllPoints_0 13 rfl
theorem dX3_sumAllPoints_18 : decode cX3_sumAllPoints 18 = .ok (.iinc 2 1, 3) := fo_dd DX3_sumAllPoints_0 14 rfl
theorem dX3_sumAllPoints_21 : decode cX3_sumAllPoints 21 = .ok (.goto (-17), 3) := fo_dd DX3_sumAllPoints_0 15 rfl
theorem dX3_sumAllPoints_24 : decode cX3_sumAllPoints 24 = .ok (.iload_n 1, 1) := fo_dd DX3_sumAllPoints_0 16 rfl
theorem dX3_sumAllPoints_25 : decode cX3_sumAllPoints 25 = .ok (.ireturn, 1) := fo_dd DX3_sumAllPoints_0 17 rfl
theorem DX4_init_0 : fo_dl cX4_init [(0, .aload_n 0, 1), (1, .invokespecial 3, 3), (4, .aload_n 0, 1), (5, .bipush 30, 2), (7, .newarray .int, 2), (9, .putfield 9, 3), (12, .aload_n 0, 1), (13, .bipush 30, 2), (15, .newarray .int, 2), (17, .putfield 15, 3), (20, .aload_n 0, 1), (21, .iconst 5, 1), (22, .newarray .int, 2), (24, .putfield 18, 3), (27, .aload_n 0, 1), (28, .bipush 31, 2), (30, .newarray .int, 2), (32, .putfield 21, 3), (35, .return_, 1)] := by decide +kernel
theorem dX4_init_0 : decode cX4_init 0 = .ok (.aload_n 0, 1) := fo_dd DX4_init_0 0 rfl
theorem dX4_init_1 : decode cX4_init 1 = .ok (.invokespecial 3, 3) := fo_dd DX4_init_0 1 rfl
theorem dX4_init_4 : decode cX4_init 4 = .ok (.aload_n 0, 1) := fo_dd DX4_init_0 2 rfl
theorem dX4_init_5 : decode cX4_init 5 = .ok (.bipush 30, 2) := fo_dd DX4_init_0 3 rfl
theorem dX4_init_7 : decode cX4_init 7 = .ok (.newarray .int, 2) := fo_dd DX4_init_0 4 rfl
theorem dX4_init_9 : decode cX4_init 9 = .ok (.putfield 9, 3) := fo_dd DX4_init_0 5 rfl
theorem dX4_init_12 : decode cX4_init 12 = .ok (.aload_n 0, 1) := fo_dd DX4_init_0 6 rfl
theorem dX4_init_13 : decode cX4_init 13 = .ok (.bipush 30, 2) := fo_dd DX4_init_0 7 rfl
theorem dX4_init_15 : decode cX4_init 15 = .ok (.newarray .int, 2) := fo_dd DX4_init_0 8 rfl
theorem dX4_init_17 : decode cX4_init 17 = .ok (.putfield 15, 3) := fo_dd DX4_init_0 9 rfl
theorem dX4_init_20 : decode cX4_init 20 = .ok (.aload_n 0, 1) := fo_dd DX4_init_0 10 rfl
theorem dX4_init_21 : decode cX4_init 21 = .ok (.iconst 5, 1) := fo_dd DX4_init_0 11 rfl
theorem dX4_init_22 : decode cX4_init 22 = .ok (.newarray .int, 2) := fo_dd DX4_init_0 12 rfl
theorem dX4_init_24 : decode cX4_init 24 = .ok (.putfield 18, 3) := fo_dd DX4_init_0 13 rfl
theorem dX4_init_27 : decode cX4_init 27 = .ok (.aload_n 0, 1) := fo_dd DX4_init_0 14 rfl
theorem dX4_init_28 : decode cX4_init 28 = .ok (.bipush 31, 2) := fo_dd DX4_init_0 15 rfl
theorem dX4_init_30 : decode cX4_init 30 = .ok (.newarray .int, 2) := fo_dd DX4_init_0 16 rfl
theorem dX4_init_32 : decode cX4_init 32 = .ok (.putfield 21, 3) := fo_dd DX4_init_0 17 rfl
theorem dX4_init_35 : decode cX4_init 35 = .ok (.return_, 1) := fo_dd DX4_init_0 18 rfl
theorem DX4_copyFrom_0 : fo_dl cX4_copyFrom [(0, .aload_n 1, 1), (1, .getfield 9, 3), (4, .iconst 0, 1), (5, .aload_n 0, 1), (6, .getfield 9, 3), (9, .iconst 0, 1), (10, .bipush 30, 2), (12, .invokestatic 24, 3), (15, .aload_n 0, 1), (16, .aload_n 1, 1), (17, .getfield 30, 3), (20, .putfield 30, 3), (23, .return_, 1)] := by decide +kernel
theorem dX4_copyFrom_0 : decode cX4_copyFrom 0 = .ok (.aload_n 1, 1) := fo_dd DX4_copyFrom_0 0 rfl
theorem dX4_copyFrom_1 : decode cX4_copyFrom 1 = .ok (.getfield 9, 3) := fo_dd DX4_copyFrom_0 1 rfl
theorem dX4_copyFrom_4 : decode cX4_copyFrom 4 = .ok (.iconst 0, 1) := fo_dd DX4_copyFrom_0 2 rfl
theorem dX4_copyFrom_5 : decode cX4_copyFrom 5 = .ok (.aload_n 0, 1) := fo_dd DX4_copyFrom_0 3 rfl
theorem dX4_copyFrom_6 : decode cX4_copyFrom 6 = .ok (.getfield 9, 3) := fo_dd DX4_copyFrom_0 4 rfl
theorem dX4_copyFrom_9 : decode cX4_copyFrom 9 = .ok (.iconst 0, 1) := fo_dd DX4_copyFrom_0 5 rfl
theorem dX4_copyFrom_10 : decode cX4_copyFrom 10 = .ok (.bipush 30, 2) := fo_dd DX4_copyFrom_0 6 rfl
theorem dX4_copyFrom_12 : decode cX4_copyFrom 12 = .ok (.invokestatic 24, 3) := fo_dd DX4_copyFrom_0 7 rfl
theorem dX4_copyFrom_15 : decode cX4_copyFrom 15 = .ok (.aload_n 0, 1) := fo_dd DX4_copyFrom_0 8 rfl
theorem dX4_copyFrom_16 : decode cX4_copyFrom 16 = .ok (.aload_n 1, 1) := fo_dd DX4_copyFrom_0 9 rfl
theorem dX4_copyFrom_17 : decode cX4_copyFrom 17 = .ok (.getfield 30, 3) := fo_dd DX4_copyFrom_0 10 rfl
theorem dX4_copyFrom_20 : decode cX4_copyFrom 20 = .ok (.putfield 30, 3) := fo_dd DX4_copyFrom_0 11 rfl
theorem dX4_copyFrom_23 : decode cX4_copyFrom 23 = .ok (.return_, 1) := fo_dd DX4_copyFrom_0 12 rfl
theorem DX4_isFull_0 : fo_dl cX4_isFull [(0, .aload_n 0, 1), (1, .getfield 30, 3), (4, .bipush 30, 2), (6, .if_icmp .lt 7, 3), (9, .iconst 1, 1), (10, .goto 4, 3), (13, .iconst 0, 1), (14, .ireturn, 1)] := by decide +kernel
theorem dX4_isFull_0 : decode cX4_isFull 0 = .ok (.aload_n 0, 1) := fo_dd DX4_isFull_0 0 rfl
theorem dX4_isFull_1 : decode cX4_isFull 1 = .ok (.getfield 30, 3) := fo_dd DX4_isFull_0 1 rfl
theorem dX4_isFull_4 : decode cX4_isFull 4 = .ok (.bipush 30, 2) := fo_dd DX4_isFull_0 2 rfl
theorem dX4_isFull_6 : decode cX4_isFull 6 = .ok (.if_icmp .lt 7, 3) := fo_dd DX4_isFull_0 3 rfl
theorem dX4_isFull_9 : decode cX4_isFull 9 = .ok (.iconst 1, 1) := fo_dd DX4_isFull_0 4 rfl
theorem dX4_isFull_10 : decode cX4_isFull 10 = .ok (.goto 4, 3) := fo_dd DX4_isFull_0 5 rfl
theorem dX4_isFull_13 : decode cX4_isFull 13 = .ok (.iconst 0, 1) := fo_dd DX4_isFull_0 6 rfl
theorem dX4_isFull_14 : decode cX4_isFull 14 = .ok (.ireturn, 1) := fo_dd DX4_isFull_0 7 rfl
theorem DX4_hasDay_0 : fo_dl cX4_hasDay [(0, .iload_n 1, 1), (1, .ifCond .lt 15, 3), (4, .iload_n 1, 1), (5, .aload_n 0, 1), (6, .getfield 30, 3), (9, .if_icmp .ge 7, 3), (12, .iconst 1, 1), (13, .goto 4, 3), (16, .iconst 0, 1), (17, .ireturn, 1)] := by decide +kernel
theorem dX4_hasDay_0 : decode cX4_hasDay 0 = .ok (.iload_n 1, 1) := fo_dd DX4_hasDay_0 0 rfl
theorem dX4_hasDay_1 : decode cX4_hasDay 1 = .ok (.ifCond .lt 15, 3) := fo_dd DX4_hasDay_0 1 rfl
theorem dX4_hasDay_4 : decode cX4_hasDay 4 = .ok (.iload_n 1, 1) := fo_dd DX4_hasDay_0 2 rfl
theorem dX4_hasDay_5 : decode cX4_hasDay 5 = .ok (.aload_n 0, 1) := fo_dd DX4_hasDay_0 3 rfl
theorem dX4_hasDay_6 : decode cX4_hasDay 6 = .ok (.getfield 30, 3) := fo_dd DX4_hasDay_0 4 rfl
theorem dX4_hasDay_9 : decode cX4_hasDay 9 = .ok (.if_icmp .ge 7, 3) := fo_dd DX4_hasDay_0 5 rfl
theorem dX4_hasDay_12 : decode cX4_hasDay 12 = .ok (.iconst 1, 1) := fo_dd DX4_hasDay_0 6 rfl
theorem dX4_hasDay_13 : decode cX4_hasDay 13 = .ok (.goto 4, 3) := fo_dd DX4_hasDay_0 7 rfl
theorem dX4_hasDay_16 : decode cX4_hasDay 16 = .ok (.iconst 0, 1) := fo_dd DX4_hasDay_0 8 rfl
theorem dX4_hasDay_17 : decode cX4_hasDay 17 = .ok (.ireturn, 1) := fo_dd DX4_hasDay_0 9 rfl
theorem DX4_add_0 : fo_dl cX4_add [(0, .aload_n 0, 1), (1, .getfield 9, 3), (4, .aload_n 0, 1), (5, .getfield 30, 3), (8, .iload_n 1, 1), (9, .iastore, 1), (10, .aload_n 0, 1), (11, .dup, 1), (12, .getfield 30, 3), (15, .iconst 1, 1), (16, .iadd, 1), (17, .putfield 30, 3), (20, .aload_n 0, 1), (21, .getfield 30, 3), (24, .iconst 1, 1), (25, .isub, 1), (26, .ireturn, 1)] := by decide +kernel
theorem dX4_add_0 : decode cX4_add 0 = .ok (.aload_n 0, 1) := fo_dd DX4_add_0 0 rfl
theorem dX4_add_1 : decode cX4_add 1 = .ok (.getfield 9, 3) := fo_dd DX4_add_0 1 rfl
theorem dX4_add_4 : decode cX4_add 4 = .ok (.aload_n 0, 1) := fo_dd DX4_add_0 2 rfl
theorem dX4_add_5 : decode cX4_add 5 = .ok (.getfield 30, 3) := fo_dd DX4_add_0 3 rfl
theorem dX4_add_8 : decode cX4_add 8 = .ok (.iload_n 1, 1) := fo_dd DX4_add_0 4 rfl
theorem dX4_add_9 : decode cX4_add 9 = .ok (.iastore, 1) := fo_dd DX4_add_0 5 rfl
theorem dX4_add_10 : decode cX4_add 10 = .ok (.aload_n 0, 1) := fo_dd DX4_add_0 6 rfl
theorem dX4_add_11 : decode cX4_add 11 = .ok (.dup, 1) := fo_dd DX4_add_0 7 rfl
theorem dX4_add_12 : decode cX4_add 12 = .ok (.getfield 30, 3) := fo_dd DX4_add_0 8 rfl
theorem dX4_add_15 : decode cX4_add 15 = .ok (.iconst 1, 1) := fo_dd DX4_add_0 9 rfl
theorem dX4_add_16 : decode cX4_add 16 = .ok (.iadd, 1) := fo_dd DX4_add_0 10 rfl
theorem dX4_add_17 : decode cX4_add 17 = .ok (.putfield 30, 3) := fo_dd DX4_add_0 11 rfl
theorem dX4_add_20 : decode cX4_add 20 = .ok (.aload_n 0, 1) := fo_dd DX4_add_0 12 rfl
theorem dX4_add_21 : decode cX4_add 21 = .ok (.getfield 30, 3) := fo_dd DX4_add_0 13 rfl
theorem dX4_add_24 : decode cX4_add 24 = .ok (.iconst 1, 1) := fo_dd DX4_add_0 14 rfl
theorem dX4_add_25 : decode cX4_add 25 = .ok (.isub, 1) := fo_dd DX4_add_0 15 rfl
theorem dX4_add_26 : decode cX4_add 26 = .ok (.ireturn, 1) := fo_dd DX4_add_0 16 rfl
theorem DX4_spread_0 : fo_dl cX4_spread [(0, .aload_n 0, 1), (1, .getfield 9, 3), (4, .iconst 0, 1), (5, .iaload, 1), (6, .istore_n 1, 1), (7, .aload_n 0, 1), (8, .getfield 9, 3), (11, .iconst 0, 1), (12, .iaload, 1), (13, .istore_n 2, 1), (14, .iconst 1, 1), (15, .istore_n 3, 1), (16, .iload_n 3, 1), (17, .aload_n 0, 1), (18, .getfield 30, 3), (21, .if_icmp .ge 31, 3), (24, .iload_n 1, 1), (25, .aload_n 0, 1), (26, .getfield 9, 3), (29, .iload_n 3, 1), (30, .iaload, 1), (31, .invokestatic 34, 3), (34, .istore_n 1, 1), (35, .iload_n 2, 1), (36, .aload_n 0, 1), (37, .getfield 9, 3), (40, .iload_n 3, 1), (41, .iaload, 1), (42, .invokestatic 40, 3), (45, .istore_n 2, 1), (46, .iinc 3 1, 3), (49, .goto (-33), 3), (52, .iload_n 2, 1), (53, .iload_n 1, 1), (54, .isub, 1), (55, .ireturn, 1)] := by decide +kernel
theorem dX4_spread_0 : decode cX4_spread 0 = .ok (.aload_n 0, 1) := fo_dd DX4_spread_0 0 rfl
theorem dX4_spread_1 : decode cX4_spread 1 = .ok (.getfield 9, 3) := fo_dd DX4_spread_0 1 rfl
theorem dX4_spread_4 : decode cX4_spread 4 = .ok (.iconst 0, 1) := fo_dd DX4_spread_0 2 rfl
theorem dX4_spread_5 : decode cX4_spread 5 = .ok (.iaload, 1) := fo_dd DX4_spread_0 3 rfl
theorem dX4_spread_6 : decode cX4_spread 6 = .ok (.istore_n 1, 1) := fo_dd DX4_spread_0 4 rfl
theorem dX4_spread_7 : decode cX4_spread 7 = .ok (.aload_n 0, 1) := fo_dd DX4_spread_0 5 rfl
theorem dX4_spread_8 : decode cX4_spread 8 = .ok (.getfield 9, 3) := fo_dd DX4_spread_0 6 rfl
theorem dX4_spread_11 : decode cX4_spread 11 = .ok (.iconst 0, 1) := fo_dd DX4_spread_0 7 rfl
theorem dX4_spread_12 : decode cX4_spread 12 = .ok (.iaload, 1) := fo_dd DX4_spread_0 8 rfl
theorem dX4_spread_13 : decode cX4_spread 13 = .ok (.istore_n 2, 1) := fo_dd DX4_spread_0 9 rfl
theorem dX4_spread_14 : decode cX4_spread 14 = .ok (.iconst 1, 1) := fo_dd DX4_spread_0 10 rfl
theorem dX4_spread_15 : decode cX4_spread 15 = .ok (.istore_n 3, 1) := fo_dd DX4_spread_0 11 rfl
theorem dX4_spread_16 : decode cX4_spread 16 = .ok (.iload_n 3, 1) := fo_dd DX4_spread_0 12 rfl
theorem dX4_spread_17 : decode cX4_spread 17 = .ok (.aload_n 0, 1) := fo_dd DX4_spread_0 13 rfl
theorem dX4_spread_18 : decode cX4_spread 18 = .ok (.getfield 30, 3) := fo_dd DX4_spread_0 14 rfl
theorem dX4_spread_21 : decode cX4_spread 21 = .ok (.if_icmp .ge 31, 3) := fo_dd DX4_spread_0 15 rfl
theorem dX4_spread_24 : decode cX4_spread 24 = .ok (.iload_n 1, 1) := fo_dd DX4_spread_0 16 rfl
theorem dX4_spread_25 : decode cX4_spread 25 = .ok (.aload_n 0, 1) := fo_dd DX4_spread_0 17 rfl
theorem dX4_spread_26 : decode cX4_spread 26 = .ok (.getfield 9, 3) := fo_dd DX4_spread_0 18 rfl
theorem dX4_spread_29 : decode cX4_spread 29 = .ok (.iload_n 3, 1) := fo_dd DX4_spread_0 19 rfl
theorem dX4_spread_30 : decode cX4_spread 30 = .ok (.iaload, 1) := fo_dd DX4_spread_0 20 rfl
theorem dX4_spread_31 : decode cX4_spread 31 = .ok (.invokestatic 34, 3) := fo_dd DX4_spread_0 21 rfl
theorem dX4_spread_34 : decode cX4_spread 34 = .ok (.istore_n 1, 1) := fo_dd DX4_spread_0 22 rfl
theorem dX4_spread_35 : decode cX4_spread 35 = .ok (.iload_n 2, 1) := fo_dd DX4_spread_0 23 rfl
theorem dX4_spread_36 : decode cX4_spread 36 = .ok (.aload_n 0, 1) := fo_dd DX4_spread_0 24 rfl
theorem dX4_spread_37 : decode cX4_spread 37 = .ok (.getfield 9, 3) := fo_dd DX4_spread_0 25 rfl
theorem dX4_spread_40 : decode cX4_spread 40 = .ok (.iload_n 3, 1) := fo_dd DX4_spread_0 26 rfl
theorem dX4_spread_41 : decode cX4_spread 41 = .ok (.iaload, 1) := fo_dd DX4_spread_0 27 rfl
theorem dX4_spread_42 : decode cX4_spread 42 = .ok (.invokestatic 40, 3) := fo_dd DX4_spread_0 28 rfl
theorem dX4_spread_45 : decode cX4_spread 45 = .ok (.istore_n 2, 1) := fo_dd DX4_spread_0 29 rfl
theorem dX4_spread_46 : decode cX4_spread 46 = .ok (.iinc 3 1, 3) := fo_dd DX4_spread_0 30 rfl
theorem dX4_spread_49 : decode cX4_spread 49 = .ok (.goto (-33), 3) := fo_dd DX4_spread_0 31 rfl
theorem dX4_spread_52 : decode cX4_spread 52 = .ok (.iload_n 2, 1) := fo_dd DX4_spread_0 32 rfl
theorem dX4_spread_53 : decode cX4_spread 53 = .ok (.iload_n 1, 1) := fo_dd DX4_spread_0 33 rfl
theorem dX4_spread_54 : decode cX4_spread 54 = .ok (.isub, 1) := fo_dd DX4_spread_0 34 rfl
theorem dX4_spread_55 : decode cX4_spread 55 = .ok (.ireturn, 1) := fo_dd DX4_spread_0 35 rfl
theorem DX4_meanBefore_0 : fo_dl cX4_meanBefore [(0, .iconst 0, 1), (1, .istore_n 3, 1), (2, .iload_n 1, 1), (3, .iload_n 2, 1), (4, .isub, 1), (5, .istore 4, 2), (7, .iload 4, 2), (9, .iload_n 1, 1), (10, .if_icmp .ge 19, 3), (13, .iload_n 3, 1), (14, .aload_n 0, 1), (15, .getfield 9, 3), (18, .iload 4, 2), (20, .iaload, 1), (21, .iadd, 1), (22, .istore_n 3, 1), (23, .iinc 4 1, 3), (26, .goto (-19), 3), (29, .iload_n 3, 1), (30, .i2d, 1), (31, .iload_n 2, 1), (32, .i2d, 1), (33, .ddiv, 1), (34, .dreturn, 1)] := by decide +kernel
theorem dX4_meanBefore_0 : decode cX4_meanBefore 0 = .ok (.iconst 0, 1) := fo_dd DX4_meanBefore_0 0 rfl
theorem dX4_meanBefore_1 : decode cX4_meanBefore 1 = .ok (.istore_n 3, 1) := fo_dd DX4_meanBefore_0 1 rfl
theorem dX4_meanBefore_2 : decode cX4_meanBefore 2 = .ok (.iload_n 1, 1) := fo_dd DX4_meanBefore_0 2 rfl
theorem dX4_meanBefore_3 : decode cX4_meanBefore 3 = .ok (.iload_n 2, 1) := fo_dd DX4_meanBefore_0 3 rfl
theorem dX4_meanBefore_4 : decode cX4_meanBefore 4 = .ok (.isub, 1) := fo_dd DX4_meanBefore_0 4 rfl
theorem dX4_meanBefore_5 : decode cX4_meanBefore 5 = .ok (.istore 4, 2) := fo_dd DX4_meanBefore_0 5 rfl
theorem dX4_meanBefore_7 : decode cX4_meanBefore 7 = .ok (.iload 4, 2) := fo_dd DX4_meanBefore_0 6 rfl
theorem dX4_meanBefore_9 : decode cX4_meanBefore 9 = .ok (.iload_n 1, 1) := fo_dd DX4_meanBefore_0 7 rfl
theorem dX4_meanBefore_10 : decode cX4_meanBefore 10 = .ok (.if_icmp .ge 19, 3) := fo_dd DX4_meanBefore_0 8 rfl
theorem dX4_meanBefore_13 : decode cX4_meanBefore 13 = .ok (.iload_n 3, 1) := fo_dd DX4_meanBefore_0 9 rfl
theorem dX4_meanBefore_14 : decode cX4_meanBefore 14 = .ok (.aload_n 0, 1) := fo_dd DX4_meanBefore_0 10 rfl
theorem dX4_meanBefore_15 : decode cX4_meanBefore 15 = .ok (.getfield 9, 3) := fo_dd DX4_meanBefore_0 11 rfl
theorem dX4_meanBefore_18 : decode cX4_meanBefore 18 = .ok (.iload 4, 2) := fo_dd DX4_meanBefore_0 12 rfl
theorem dX4_meanBefore_20 : decode cX4_meanBefore 20 = .ok (.iaload, 1) := fo_dd DX4_meanBefore_0 13 rfl
theorem dX4_meanBefore_21 : decode cX4_meanBefore 21 = .ok (.iadd, 1) := fo_dd DX4_meanBefore_0 14 rfl
theorem dX4_meanBefore_22 : decode cX4_meanBefore 22 = .ok (.istore_n 3, 1) := fo_dd DX4_meanBefore_0 15 rfl
theorem dX4_meanBefore_23 : decode cX4_meanBefore 23 = .ok (.iinc 4 1, 3) := fo_dd DX4_meanBefore_0 16 rfl
theorem dX4_meanBefore_26 : decode cX4_meanBefore 26 = .ok (.goto (-19), 3) := fo_dd DX4_meanBefore_0 17 rfl
theorem dX4_meanBefore_29 : decode cX4_meanBefore 29 = .ok (.iload_n 3, 1) := fo_dd DX4_meanBefore_0 18 rfl
theorem dX4_meanBefore_30 : decode cX4_meanBefore 30 = .ok (.i2d, 1) := fo_dd DX4_meanBefore_0 19 rfl
theorem dX4_meanBefore_31 : decode cX4_meanBefore 31 = .ok (.iload_n 2, 1) := fo_dd DX4_meanBefore_0 20 rfl
theorem dX4_meanBefore_32 : decode cX4_meanBefore 32 = .ok (.i2d, 1) := fo_dd DX4_meanBefore_0 21 rfl
theorem dX4_meanBefore_33 : decode cX4_meanBefore 33 = .ok (.ddiv, 1) := fo_dd DX4_meanBefore_0 22 rfl
theorem dX4_meanBefore_34 : decode cX4_meanBefore 34 = .ok (.dreturn, 1) := fo_dd DX4_meanBefore_0 23 rfl
theorem DX4_meanBySums_0 : fo_dl cX4_meanBySums [(0, .aload_n 0, 1), (1, .getfield 21, 3), (4, .iconst 0, 1), (5, .iconst 0, 1), (6, .iastore, 1), (7, .iconst 0, 1), (8, .istore_n 2, 1), (9, .iload_n 2, 1), (10, .aload_n 0, 1), (11, .getfield 30, 3), (14, .if_icmp .ge 30, 3), (17, .aload_n 0, 1), (18, .getfield 21, 3), (21, .iload_n 2, 1), (22, .iconst 1, 1), (23, .iadd, 1), (24, .aload_n 0, 1), (25, .getfield 21, 3), (28, .iload_n 2, 1), (29, .iaload, 1), (30, .aload_n 0, 1), (31, .getfield 9, 3), (34, .iload_n 2, 1), (35, .iaload, 1), (36, .iadd, 1), (37, .iastore, 1), (38, .iinc 2 1, 3), (41, .goto (-32), 3), (44, .aload_n 0, 1), (45, .getfield 21, 3), (48, .aload_n 0, 1), (49, .getfield 30, 3), (52, .iaload, 1), (53, .aload_n 0, 1), (54, .getfield 21, 3), (57, .aload_n 0, 1), (58, .getfield 30, 3), (61, .iload_n 1, 1), (62, .isub, 1), (63, .iaload, 1), (64, .isub, 1), (65, .i2d, 1), (66, .iload_n 1, 1), (67, .i2d, 1), (68, .ddiv, 1), (69, .dreturn, 1)] := by decide +kernel
theorem dX4_meanBySums_0 : decode cX4_meanBySums 0 = .ok (.aload_n 0, 1) := fo_dd DX4_meanBySums_0 0 rfl
theorem dX4_meanBySums_1 : decode cX4_meanBySums 1 = .ok (.getfield 21, 3) := fo_dd DX4_meanBySums_0 1 rfl
theorem dX4_meanBySums_4 : decode cX4_meanBySums 4 = .ok (.iconst 0, 1) := fo_dd DX4_meanBySums_0 2 rfl
theorem dX4_meanBySums_5 : decode cX4_meanBySums 5 = .ok (.iconst 0, 1) := fo_dd DX4_meanBySums_0 3 rfl
theorem dX4_meanBySums_6 : decode cX4_meanBySums 6 = .ok (.iastore, 1) := fo_dd DX4_meanBySums_0 4 rfl
theorem dX4_meanBySums_7 : decode cX4_meanBySums 7 = .ok (.iconst 0, 1) := fo_dd DX4_meanBySums_0 5 rfl
theorem dX4_meanBySums_8 : decode cX4_meanBySums 8 = .ok (.istore_n 2, 1) := fo_dd DX4_meanBySums_0 6 rfl
theorem dX4_meanBySums_9 : decode cX4_meanBySums 9 = .ok (.iload_n 2, 1) := fo_dd DX4_meanBySums_0 7 rfl
theorem dX4_meanBySums_10 : decode cX4_meanBySums 10 = .ok (.aload_n 0, 1) := fo_dd DX4_meanBySums_0 8 rfl
theorem dX4_meanBySums_11 : decode cX4_meanBySums 11 = .ok (.getfield 30, 3) := fo_dd DX4_meanBySums_0 9 rfl
theorem dX4_meanBySums_14 : decode cX4_meanBySums 14 = .ok (.if_icmp .ge 30, 3) := fo_dd DX4_meanBySums_0 10 rfl
theorem dX4_meanBySums_17 : decode cX4_meanBySums 17 = .ok (.aload_n 0, 1) := fo_dd DX4_meanBySums_0 11 rfl
theorem dX4_meanBySums_18 : decode cX4_meanBySums 18 = .ok (.getfield 21, 3) := fo_dd DX4_meanBySums_0 12 rfl
theorem dX4_meanBySums_21 : decode cX4_meanBySums 21 = .ok (.iload_n 2, 1) := fo_dd DX4_meanBySums_0 13 rfl
theorem dX4_meanBySums_22 : decode cX4_meanBySums 22 = .ok (.iconst 1, 1) := fo_dd DX4_meanBySums_0 14 rfl
theorem dX4_meanBySums_23 : decode cX4_meanBySums 23 = .ok (.iadd, 1) := fo_dd DX4_meanBySums_0 15 rfl
theorem dX4_meanBySums_24 : decode cX4_meanBySums 24 = .ok (.aload_n 0, 1) := fo_dd DX4_meanBySums_0 16 rfl
theorem dX4_meanBySums_25 : decode cX4_meanBySums 25 = .ok (.getfield 21, 3) := fo_dd DX4_meanBySums_0 17 rfl
theorem dX4_meanBySums_28 : decode cX4_meanBySums 28 = .ok (.iload_n 2, 1) := fo_dd DX4_meanBySums_0 18 rfl
theorem dX4_meanBySums_29 : decode cX4_meanBySums 29 = .ok (.iaload, 1) := fo_dd DX4_meanBySums_0 19 rfl
theorem dX4_meanBySums_30 : decode cX4_meanBySums 30 = .ok (.aload_n 0, 1) := fo_dd DX4_meanBySums_0 20 rfl
theorem dX4_meanBySums_31 : decode cX4_meanBySums 31 = .ok (.getfield 9, 3) := fo_dd DX4_meanBySums_0 21 rfl
theorem dX4_meanBySums_34 : decode cX4_meanBySums 34 = .ok (.iload_n 2, 1) := fo_dd DX4_meanBySums_0 22 rfl
theorem dX4_meanBySums_35 : decode cX4_meanBySums 35 = .ok (.iaload, 1) := fo_dd DX4_meanBySums_0 23 rfl
theorem dX4_meanBySums_36 : decode cX4_meanBySums 36 = .ok (.iadd, 1) := fo_dd DX4_meanBySums_0 24 rfl
theorem dX4_meanBySums_37 : decode cX4_meanBySums 37 = .ok (.iastore, 1) := fo_dd DX4_meanBySums_0 25 rfl
theorem dX4_meanBySums_38 : decode cX4_meanBySums 38 = .ok (.iinc 2 1, 3) := fo_dd DX4_meanBySums_0 26 rfl
theorem dX4_meanBySums_41 : decode cX4_meanBySums 41 = .ok (.goto (-32), 3) := fo_dd DX4_meanBySums_0 27 rfl
theorem dX4_meanBySums_44 : decode cX4_meanBySums 44 = .ok (.aload_n 0, 1) := fo_dd DX4_meanBySums_0 28 rfl
theorem dX4_meanBySums_45 : decode cX4_meanBySums 45 = .ok (.getfield 21, 3) := fo_dd DX4_meanBySums_0 29 rfl
theorem dX4_meanBySums_48 : decode cX4_meanBySums 48 = .ok (.aload_n 0, 1) := fo_dd DX4_meanBySums_0 30 rfl
theorem dX4_meanBySums_49 : decode cX4_meanBySums 49 = .ok (.getfield 30, 3) := fo_dd DX4_meanBySums_0 31 rfl
theorem dX4_meanBySums_52 : decode cX4_meanBySums 52 = .ok (.iaload, 1) := fo_dd DX4_meanBySums_0 32 rfl
theorem dX4_meanBySums_53 : decode cX4_meanBySums 53 = .ok (.aload_n 0, 1) := fo_dd DX4_meanBySums_0 33 rfl
theorem dX4_meanBySums_54 : decode cX4_meanBySums 54 = .ok (.getfield 21, 3) := fo_dd DX4_meanBySums_0 34 rfl
theorem dX4_meanBySums_57 : decode cX4_meanBySums 57 = .ok (.aload_n 0, 1) := fo_dd DX4_meanBySums_0 35 rfl
theorem dX4_meanBySums_58 : decode cX4_meanBySums 58 = .ok (.getfield 30, 3) := fo_dd DX4_meanBySums_0 36 rfl
theorem dX4_meanBySums_61 : decode cX4_meanBySums 61 = .ok (.iload_n 1, 1) := fo_dd DX4_meanBySums_0 37 rfl
theorem dX4_meanBySums_62 : decode cX4_meanBySums 62 = .ok (.isub, 1) := fo_dd DX4_meanBySums_0 38 rfl
theorem dX4_meanBySums_63 : decode cX4_meanBySums 63 = .ok (.iaload, 1) := fo_dd DX4_meanBySums_0 39 rfl
theorem dX4_meanBySums_64 : decode cX4_meanBySums 64 = .ok (.isub, 1) := fo_dd DX4_meanBySums_0 40 rfl
theorem dX4_meanBySums_65 : decode cX4_meanBySums 65 = .ok (.i2d, 1) := fo_dd DX4_meanBySums_0 41 rfl
theorem dX4_meanBySums_66 : decode cX4_meanBySums 66 = .ok (.iload_n 1, 1) := fo_dd DX4_meanBySums_0 42 rfl
theorem dX4_meanBySums_67 : decode cX4_meanBySums 67 = .ok (.i2d, 1) := fo_dd DX4_meanBySums_0 43 rfl
theorem dX4_meanBySums_68 : decode cX4_meanBySums 68 = .ok (.ddiv, 1) := fo_dd DX4_meanBySums_0 44 rfl
theorem dX4_meanBySums_69 : decode cX4_meanBySums 69 = .ok (.dreturn, 1) := fo_dd DX4_meanBySums_0 45 rfl
theorem DX4_medianOf_0 : fo_dl cX4_medianOf [(0, .iconst 0, 1), (1, .istore 4, 2), (3, .iload 4, 2), (5, .iload_n 3, 1), (6, .if_icmp .ge 71, 3), (9, .aload_n 1, 1), (10, .iload_n 2, 1), (11, .iload 4, 2), (13, .iadd, 1), (14, .iaload, 1), (15, .istore 5, 2), (17, .iload 4, 2), (19, .istore 6, 2), (21, .iload 6, 2), (23, .ifCond .le 39, 3), (26, .aload_n 0, 1), (27, .getfield 15, 3), (30, .iload 6, 2), (32, .iconst 1, 1), (33, .isub, 1), (34, .iaload, 1), (35, .iload 5, 2), (37, .if_icmp .le 25, 3), (40, .aload_n 0, 1), (41, .getfield 15, 3), (44, .iload 6, 2), (46, .aload_n 0, 1), (47, .getfield 15, 3), (50, .iload 6, 2), (52, .iconst 1, 1), (53, .isub, 1), (54, .iaload, 1), (55, .iastore, 1), (56, .iinc 6 (-1), 3), (59, .goto (-38), 3), (62, .aload_n 0, 1), (63, .getfield 15, 3), (66, .iload 6, 2), (68, .iload 5, 2), (70, .iastore, 1), (71, .iinc 4 1, 3), (74, .goto (-71), 3), (77, .aload_n 0, 1), (78, .getfield 15, 3), (81, .iload_n 3, 1), (82, .iconst 1, 1), (83, .isub, 1), (84, .iconst 2, 1), (85, .idiv, 1), (86, .iaload, 1), (87, .ireturn, 1)] := by decide +kernel
theorem dX4_medianOf_0 : decode cX4_medianOf 0 = .ok (.iconst 0, 1) := fo_dd DX4_medianOf_0 0 rfl
theorem dX4_medianOf_1 : decode cX4_medianOf 1 = .ok (.istore 4, 2) := fo_dd DX4_medianOf_0 1 rfl
theorem dX4_medianOf_3 : decode cX4_medianOf 3 = .ok (.iload 4, 2) := fo_dd DX4_medianOf_0 2 rfl
theorem dX4_medianOf_5 : decode cX4_medianOf 5 = .ok (.iload_n 3, 1) := fo_dd DX4_medianOf_0 3 rfl
theorem dX4_medianOf_6 : decode cX4_medianOf 6 = .ok (.if_icmp .ge 71, 3) := fo_dd DX4_medianOf_0 4 rfl
theorem dX4_medianOf_9 : decode cX4_medianOf 9 = .ok (.aload_n 1, 1) := fo_dd DX4_medianOf_0 5 rfl
theorem dX4_medianOf_10 : decode cX4_medianOf 10 = .ok (.iload_n 2, 1) := fo_dd DX4_medianOf_0 6 rfl
theorem dX4_medianOf_11 : decode cX4_medianOf 11 = .ok (.iload 4, 2) := fo_dd DX4_medianOf_0 7 rfl
theorem dX4_medianOf_13 : decode cX4_medianOf 13 = .ok (.iadd, 1) := fo_dd DX4_medianOf_0 8 rfl
theorem dX4_medianOf_14 : decode cX4_medianOf 14 = .ok (.iaload, 1) := fo_dd DX4_medianOf_0 9 rfl
theorem dX4_medianOf_15 : decode cX4_medianOf 15 = .ok (.istore 5, 2) := fo_dd DX4_medianOf_0 10 rfl
theorem dX4_medianOf_17 : decode cX4_medianOf 17 = .ok (.iload 4, 2) := fo_dd DX4_medianOf_0 11 rfl
theorem dX4_medianOf_19 : decode cX4_medianOf 19 = .ok (.istore 6, 2) := fo_dd DX4_medianOf_0 12 rfl
theorem dX4_medianOf_21 : decode cX4_medianOf 21 = .ok (.iload 6, 2) := fo_dd DX4_medianOf_0 13 rfl
theorem dX4_medianOf_23 : decode cX4_medianOf 23 = .ok (.ifCond .le 39, 3) := fo_dd DX4_medianOf_0 14 rfl
theorem dX4_medianOf_26 : decode cX4_medianOf 26 = .ok (.aload_n 0, 1) := fo_dd DX4_medianOf_0 15 rfl
theorem dX4_medianOf_27 : decode cX4_medianOf 27 = .ok (.getfield 15, 3) := fo_dd DX4_medianOf_0 16 rfl
theorem dX4_medianOf_30 : decode cX4_medianOf 30 = .ok (.iload 6, 2) := fo_dd DX4_medianOf_0 17 rfl
theorem dX4_medianOf_32 : decode cX4_medianOf 32 = .ok (.iconst 1, 1) := fo_dd DX4_medianOf_0 18 rfl
theorem dX4_medianOf_33 : decode cX4_medianOf 33 = .ok (.isub, 1) := fo_dd DX4_medianOf_0 19 rfl
theorem dX4_medianOf_34 : decode cX4_medianOf 34 = .ok (.iaload, 1) := fo_dd DX4_medianOf_0 20 rfl
theorem dX4_medianOf_35 : decode cX4_medianOf 35 = .ok (.iload 5, 2) := fo_dd DX4_medianOf_0 21 rfl
theorem dX4_medianOf_37 : decode cX4_medianOf 37 = .ok (.if_icmp .le 25, 3) := fo_dd DX4_medianOf_0 22 rfl
theorem dX4_medianOf_40 : decode cX4_medianOf 40 = .ok (.aload_n 0, 1) := fo_dd DX4_medianOf_0 23 rfl
theorem dX4_medianOf_41 : decode cX4_medianOf 41 = .ok (.getfield 15, 3) := fo_dd DX4_medianOf_0 24 rfl
theorem dX4_medianOf_44 : decode cX4_medianOf 44 = .ok (.iload 6, 2) := fo_dd DX4_medianOf_0 25 rfl
theorem dX4_medianOf_46 : decode cX4_medianOf 46 = .ok (.aload_n 0, 1) := fo_dd DX4_medianOf_0 26 rfl
theorem dX4_medianOf_47 : decode cX4_medianOf 47 = .ok (.getfield 15, 3) := fo_dd DX4_medianOf_0 27 rfl
theorem dX4_medianOf_50 : decode cX4_medianOf 50 = .ok (.iload 6, 2) := fo_dd DX4_medianOf_0 28 rfl
theorem dX4_medianOf_52 : decode cX4_medianOf 52 = .ok (.iconst 1, 1) := fo_dd DX4_medianOf_0 29 rfl
theorem dX4_medianOf_53 : decode cX4_medianOf 53 = .ok (.isub, 1) := fo_dd DX4_medianOf_0 30 rfl
theorem dX4_medianOf_54 : decode cX4_medianOf 54 = .ok (.iaload, 1) := fo_dd DX4_medianOf_0 31 rfl
theorem dX4_medianOf_55 : decode cX4_medianOf 55 = .ok (.iastore, 1) := fo_dd DX4_medianOf_0 32 rfl
theorem dX4_medianOf_56 : decode cX4_medianOf 56 = .ok (.iinc 6 (-1), 3) := fo_dd DX4_medianOf_0 33 rfl
theorem dX4_medianOf_59 : decode cX4_medianOf 59 = .ok (.goto (-38), 3) := fo_dd DX4_medianOf_0 34 rfl
theorem dX4_medianOf_62 : decode cX4_medianOf 62 = .ok (.aload_n 0, 1) := fo_dd DX4_medianOf_0 35 rfl
theorem dX4_medianOf_63 : decode cX4_medianOf 63 = .ok (.getfield 15, 3) := fo_dd DX4_medianOf_0 36 rfl
theorem dX4_medianOf_66 : decode cX4_medianOf 66 = .ok (.iload 6, 2) := fo_dd DX4_medianOf_0 37 rfl
theorem dX4_medianOf_68 : decode cX4_medianOf 68 = .ok (.iload 5, 2) := fo_dd DX4_medianOf_0 38 rfl
theorem dX4_medianOf_70 : decode cX4_medianOf 70 = .ok (.iastore, 1) := fo_dd DX4_medianOf_0 39 rfl
theorem dX4_medianOf_71 : decode cX4_medianOf 71 = .ok (.iinc 4 1, 3) := fo_dd DX4_medianOf_0 40 rfl
theorem dX4_medianOf_74 : decode cX4_medianOf 74 = .ok (.goto (-71), 3) := fo_dd DX4_medianOf_0 41 rfl
theorem dX4_medianOf_77 : decode cX4_medianOf 77 = .ok (.aload_n 0, 1) := fo_dd DX4_medianOf_0 42 rfl
theorem dX4_medianOf_78 : decode cX4_medianOf 78 = .ok (.getfield 15, 3) := fo_dd DX4_medianOf_0 43 rfl
theorem dX4_medianOf_81 : decode cX4_medianOf 81 = .ok (.iload_n 3, 1) := fo_dd DX4_medianOf_0 44 rfl
theorem dX4_medianOf_82 : decode cX4_medianOf 82 = .ok (.iconst 1, 1) := fo_dd DX4_medianOf_0 45 rfl
theorem dX4_medianOf_83 : decode cX4_medianOf 83 = .ok (.isub, 1) := fo_dd DX4_medianOf_0 46 rfl
theorem dX4_medianOf_84 : decode cX4_medianOf 84 = .ok (.iconst 2, 1) := fo_dd DX4_medianOf_0 47 rfl
theorem dX4_medianOf_85 : decode cX4_medianOf 85 = .ok (.idiv, 1) := fo_dd DX4_medianOf_0 48 rfl
theorem dX4_medianOf_86 : decode cX4_medianOf 86 = .ok (.iaload, 1) := fo_dd DX4_medianOf_0 49 rfl
theorem dX4_medianOf_87 : decode cX4_medianOf 87 = .ok (.ireturn, 1) := fo_dd DX4_medianOf_0 50 rfl
theorem DX4_countedMedian_0 : fo_dl cX4_countedMedian [(0, .aload_n 0, 1), (1, .getfield 30, 3), (4, .iload_n 1, 1), (5, .isub, 1), (6, .istore_n 2, 1), (7, .iload_n 1, 1), (8, .iconst 1, 1), (9, .isub, 1), (10, .iconst 2, 1), (11, .idiv, 1), (12, .istore_n 3, 1), (13, .iload_n 2, 1), (14, .istore 4, 2), (16, .iload 4, 2), (18, .aload_n 0, 1), (19, .getfield 30, 3), (22, .if_icmp .ge 65, 3), (25, .aload_n 0, 1), (26, .iload_n 2, 1), (27, .aload_n 0, 1), (28, .getfield 9, 3), (31, .iload 4, 2), (33, .iaload, 1), (34, .invokevirtual 43, 3), (37, .istore 5, 2), (39, .aload_n 0, 1), (40, .iload_n 2, 1), (41, .aload_n 0, 1), (42, .getfield 9, 3), (45, .iload 4, 2), (47, .iaload, 1), (48, .iconst 1, 1), (49, .iadd, 1), (50, .invokevirtual 43, 3), (53, .iload 5, 2), (55, .isub, 1), (56, .istore 6, 2), (58, .iload 5, 2), (60, .iload_n 3, 1), (61, .if_icmp .gt 20, 3), (64, .iload_n 3, 1), (65, .iload 5, 2), (67, .iload 6, 2), (69, .iadd, 1), (70, .if_icmp .ge 11, 3), (73, .aload_n 0, 1), (74, .getfield 9, 3), (77, .iload 4, 2), (79, .iaload, 1), (80, .ireturn, 1), (81, .iinc 4 1, 3), (84, .goto (-68), 3), (87, .aload_n 0, 1), (88, .getfield 9, 3), (91, .iload_n 2, 1), (92, .iaload, 1), (93, .ireturn, 1)] := by decide +kernel
theorem dX4_countedMedian_0 : decode cX4_countedMedian 0 = .ok (.aload_n 0, 1) := fo_dd DX4_countedMedian_0 0 rfl
theorem dX4_countedMedian_1 : decode cX4_countedMedian 1 = .ok (.getfield 30, 3) := fo_dd DX4_countedMedian_0 1 rfl
theorem dX4_countedMedian_4 : decode cX4_countedMedian 4 = .ok (.iload_n 1, 1) := fo_dd DX4_countedMedian_0 2 rfl
theorem dX4_countedMedian_5 : decode cX4_countedMedian 5 = .ok (.isub, 1) := fo_dd DX4_countedMedian_0 3 rfl
theorem dX4_countedMedian_6 : decode cX4_countedMedian 6 = .ok (.istore_n 2, 1) := fo_dd DX4_countedMedian_0 4 rfl
theorem dX4_countedMedian_7 : decode cX4_countedMedian 7 = .ok (.iload_n 1, 1) := fo_dd DX4_countedMedian_0 5 rfl
theorem dX4_countedMedian_8 : decode cX4_countedMedian 8 = .ok (.iconst 1, 1) := fo_dd DX4_countedMedian_0 6 rfl
theorem dX4_countedMedian_9 : decode cX4_countedMedian 9 = .ok (.isub, 1) := fo_dd DX4_countedMedian_0 7 rfl
theorem dX4_countedMedian_10 : decode cX4_countedMedian 10 = .ok (.iconst 2, 1) := fo_dd DX4_countedMedian_0 8 rfl
theorem dX4_countedMedian_11 : decode cX4_countedMedian 11 = .ok (.idiv, 1) := fo_dd DX4_countedMedian_0 9 rfl
theorem dX4_countedMedian_12 : decode cX4_countedMedian 12 = .ok (.istore_n 3, 1) := fo_dd DX4_countedMedian_0 10 rfl
theorem dX4_countedMedian_13 : decode cX4_countedMedian 13 = .ok (.iload_n 2, 1) := fo_dd DX4_countedMedian_0 11 rfl
theorem dX4_countedMedian_14 : decode cX4_countedMedian 14 = .ok (.istore 4, 2) := fo_dd DX4_countedMedian_0 12 rfl
theorem dX4_countedMedian_16 : decode cX4_countedMedian 16 = .ok (.iload 4, 2) := fo_dd DX4_countedMedian_0 13 rfl
theorem dX4_countedMedian_18 : decode cX4_countedMedian 18 = .ok (.aload_n 0, 1) := fo_dd DX4_countedMedian_0 14 rfl
theorem dX4_countedMedian_19 : decode cX4_countedMedian 19 = .ok (.getfield 30, 3) := fo_dd DX4_countedMedian_0 15 rfl
theorem dX4_countedMedian_22 : decode cX4_countedMedian 22 = .ok (.if_icmp .ge 65, 3) := fo_dd DX4_countedMedian_0 16 rfl
theorem dX4_countedMedian_25 : decode cX4_countedMedian 25 = .ok (.aload_n 0, 1) := fo_dd DX4_countedMedian_0 17 rfl
theorem dX4_countedMedian_26 : decode cX4_countedMedian 26 = .ok (.iload_n 2, 1) := fo_dd DX4_countedMedian_0 18 rfl
theorem dX4_countedMedian_27 : decode cX4_countedMedian 27 = .ok (.aload_n 0, 1) := fo_dd DX4_countedMedian_0 19 rfl
theorem dX4_countedMedian_28 : decode cX4_countedMedian 28 = .ok (.getfield 9, 3) := fo_dd DX4_countedMedian_0 20 rfl
theorem dX4_countedMedian_31 : decode cX4_countedMedian 31 = .ok (.iload 4, 2) := fo_dd DX4_countedMedian_0 21 rfl
theorem dX4_countedMedian_33 : decode cX4_countedMedian 33 = .ok (.iaload, 1) := fo_dd DX4_countedMedian_0 22 rfl
theorem dX4_countedMedian_34 : decode cX4_countedMedian 34 = .ok (.invokevirtual 43, 3) := fo_dd DX4_countedMedian_0 23 rfl
theorem dX4_countedMedian_37 : decode cX4_countedMedian 37 = .ok (.istore 5, 2) := fo_dd DX4_countedMedian_0 24 rfl
theorem dX4_countedMedian_39 : decode cX4_countedMedian 39 = .ok (.aload_n 0, 1) := fo_dd DX4_countedMedian_0 25 rfl
theorem dX4_countedMedian_40 : decode cX4_countedMedian 40 = .ok (.iload_n 2, 1) := fo_dd DX4_countedMedian_0 26 rfl
theorem dX4_countedMedian_41 : decode cX4_countedMedian 41 = .ok (.aload_n 0, 1) := fo_dd DX4_countedMedian_0 27 rfl
theorem dX4_countedMedian_42 : decode cX4_countedMedian 42 = .ok (.getfield 9, 3) := fo_dd DX4_countedMedian_0 28 rfl
theorem dX4_countedMedian_45 : decode cX4_countedMedian 45 = .ok (.iload 4, 2) := fo_dd DX4_countedMedian_0 29 rfl
theorem dX4_countedMedian_47 : decode cX4_countedMedian 47 = .ok (.iaload, 1) := fo_dd DX4_countedMedian_0 30 rfl
theorem dX4_countedMedian_48 : decode cX4_countedMedian 48 = .ok (.iconst 1, 1) := fo_dd DX4_countedMedian_0 31 rfl
theorem dX4_countedMedian_49 : decode cX4_countedMedian 49 = .ok (.iadd, 1) := fo_dd DX4_countedMedian_0 32 rfl
theorem dX4_countedMedian_50 : decode cX4_countedMedian 50 = .ok (.invokevirtual 43, 3) := fo_dd DX4_countedMedian_0 33 rfl
theorem dX4_countedMedian_53 : decode cX4_countedMedian 53 = .ok (.iload 5, 2) := fo_dd DX4_countedMedian_0 34 rfl
theorem dX4_countedMedian_55 : decode cX4_countedMedian 55 = .ok (.isub, 1) := fo_dd DX4_countedMedian_0 35 rfl
theorem dX4_countedMedian_56 : decode cX4_countedMedian 56 = .ok (.istore 6, 2) := fo_dd DX4_countedMedian_0 36 rfl
theorem dX4_countedMedian_58 : decode cX4_countedMedian 58 = .ok (.iload 5, 2) := fo_dd DX4_countedMedian_0 37 rfl
theorem dX4_countedMedian_60 : decode cX4_countedMedian 60 = .ok (.iload_n 3, 1) := fo_dd DX4_countedMedian_0 38 rfl
theorem dX4_countedMedian_61 : decode cX4_countedMedian 61 = .ok (.if_icmp .gt 20, 3) := fo_dd DX4_countedMedian_0 39 rfl
theorem dX4_countedMedian_64 : decode cX4_countedMedian 64 = .ok (.iload_n 3, 1) := fo_dd DX4_countedMedian_0 40 rfl
theorem dX4_countedMedian_65 : decode cX4_countedMedian 65 = .ok (.iload 5, 2) := fo_dd DX4_countedMedian_0 41 rfl
theorem dX4_countedMedian_67 : decode cX4_countedMedian 67 = .ok (.iload 6, 2) := fo_dd DX4_countedMedian_0 42 rfl
theorem dX4_countedMedian_69 : decode cX4_countedMedian 69 = .ok (.iadd, 1) := fo_dd DX4_countedMedian_0 43 rfl
theorem dX4_countedMedian_70 : decode cX4_countedMedian 70 = .ok (.if_icmp .ge 11, 3) := fo_dd DX4_countedMedian_0 44 rfl
theorem dX4_countedMedian_73 : decode cX4_countedMedian 73 = .ok (.aload_n 0, 1) := fo_dd DX4_countedMedian_0 45 rfl
theorem dX4_countedMedian_74 : decode cX4_countedMedian 74 = .ok (.getfield 9, 3) := fo_dd DX4_countedMedian_0 46 rfl
theorem dX4_countedMedian_77 : decode cX4_countedMedian 77 = .ok (.iload 4, 2) := fo_dd DX4_countedMedian_0 47 rfl
theorem dX4_countedMedian_79 : decode cX4_countedMedian 79 = .ok (.iaload, 1) := fo_dd DX4_countedMedian_0 48 rfl
theorem dX4_countedMedian_80 : decode cX4_countedMedian 80 = .ok (.ireturn, 1) := fo_dd DX4_countedMedian_0 49 rfl
theorem dX4_countedMedian_81 : decode cX4_countedMedian 81 = .ok (.iinc 4 1, 3) := fo_dd DX4_countedMedian_0 50 rfl
theorem dX4_countedMedian_84 : decode cX4_countedMedian 84 = .ok (.goto (-68), 3) := fo_dd DX4_countedMedian_0 51 rfl
theorem dX4_countedMedian_87 : decode cX4_countedMedian 87 = .ok (.aload_n 0, 1) := fo_dd DX4_countedMedian_0 52 rfl
theorem dX4_countedMedian_88 : decode cX4_countedMedian 88 = .ok (.getfield 9, 3) := fo_dd DX4_countedMedian_0 53 rfl
theorem dX4_countedMedian_91 : decode cX4_countedMedian 91 = .ok (.iload_n 2, 1) := fo_dd DX4_countedMedian_0 54 rfl
theorem dX4_countedMedian_92 : decode cX4_countedMedian 92 = .ok (.iaload, 1) := fo_dd DX4_countedMedian_0 55 rfl
theorem dX4_countedMedian_93 : decode cX4_countedMedian 93 = .ok (.ireturn, 1) := fo_dd DX4_countedMedian_0 56 rfl
theorem DX4_countBelow_0 : fo_dl cX4_countBelow [(0, .iconst 0, 1), (1, .istore_n 3, 1), (2, .iload_n 1, 1), (3, .istore 4, 2), (5, .iload 4, 2), (7, .aload_n 0, 1), (8, .getfield 30, 3), (11, .if_icmp .ge 23, 3), (14, .aload_n 0, 1), (15, .getfield 9, 3), (18, .iload 4, 2), (20, .iaload, 1), (21, .iload_n 2, 1), (22, .if_icmp .ge 6, 3), (25, .iinc 3 1, 3), (28, .iinc 4 1, 3), (31, .goto (-26), 3), (34, .iload_n 3, 1), (35, .ireturn, 1)] := by decide +kernel
theorem dX4_countBelow_0 : decode cX4_countBelow 0 = .ok (.iconst 0, 1) := fo_dd DX4_countBelow_0 0 rfl
theorem dX4_countBelow_1 : decode cX4_countBelow 1 = .ok (.istore_n 3, 1) := fo_dd DX4_countBelow_0 1 rfl
theorem dX4_countBelow_2 : decode cX4_countBelow 2 = .ok (.iload_n 1, 1) := fo_dd DX4_countBelow_0 2 rfl
theorem dX4_countBelow_3 : decode cX4_countBelow 3 = .ok (.istore 4, 2) := fo_dd DX4_countBelow_0 3 rfl
theorem dX4_countBelow_5 : decode cX4_countBelow 5 = .ok (.iload 4, 2) := fo_dd DX4_countBelow_0 4 rfl
theorem dX4_countBelow_7 : decode cX4_countBelow 7 = .ok (.aload_n 0, 1) := fo_dd DX4_countBelow_0 5 rfl
theorem dX4_countBelow_8 : decode cX4_countBelow 8 = .ok (.getfield 30, 3) := fo_dd DX4_countBelow_0 6 rfl
theorem dX4_countBelow_11 : decode cX4_countBelow 11 = .ok (.if_icmp .ge 23, 3) := fo_dd DX4_countBelow_0 7 rfl
theorem dX4_countBelow_14 : decode cX4_countBelow 14 = .ok (.aload_n 0, 1) := fo_dd DX4_countBelow_0 8 rfl
theorem dX4_countBelow_15 : decode cX4_countBelow 15 = .ok (.getfield 9, 3) := fo_dd DX4_countBelow_0 9 rfl
theorem dX4_countBelow_18 : decode cX4_countBelow 18 = .ok (.iload 4, 2) := fo_dd DX4_countBelow_0 10 rfl
theorem dX4_countBelow_20 : decode cX4_countBelow 20 = .ok (.iaload, 1) := fo_dd DX4_countBelow_0 11 rfl
theorem dX4_countBelow_21 : decode cX4_countBelow 21 = .ok (.iload_n 2, 1) := fo_dd DX4_countBelow_0 12 rfl
theorem dX4_countBelow_22 : decode cX4_countBelow 22 = .ok (.if_icmp .ge 6, 3) := fo_dd DX4_countBelow_0 13 rfl
theorem dX4_countBelow_25 : decode cX4_countBelow 25 = .ok (.iinc 3 1, 3) := fo_dd DX4_countBelow_0 14 rfl
theorem dX4_countBelow_28 : decode cX4_countBelow 28 = .ok (.iinc 4 1, 3) := fo_dd DX4_countBelow_0 15 rfl
theorem dX4_countBelow_31 : decode cX4_countBelow 31 = .ok (.goto (-26), 3) := fo_dd DX4_countBelow_0 16 rfl
theorem dX4_countBelow_34 : decode cX4_countBelow 34 = .ok (.iload_n 3, 1) := fo_dd DX4_countBelow_0 17 rfl
theorem dX4_countBelow_35 : decode cX4_countBelow 35 = .ok (.ireturn, 1) := fo_dd DX4_countBelow_0 18 rfl
theorem DX4_levelBefore_0 : fo_dl cX4_levelBefore [(0, .aload_n 0, 1), (1, .getfield 9, 3), (4, .iconst 0, 1), (5, .iaload, 1), (6, .i2d, 1), (7, .dstore_n 3, 1), (8, .iconst 1, 1), (9, .istore 5, 2), (11, .iload 5, 2), (13, .iload_n 1, 1), (14, .if_icmp .ge 29, 3), (17, .dload_n 3, 1), (18, .iload_n 2, 1), (19, .i2d, 1), (20, .aload_n 0, 1), (21, .getfield 9, 3), (24, .iload 5, 2), (26, .iaload, 1), (27, .i2d, 1), (28, .dload_n 3, 1), (29, .dsub, 1), (30, .dmul, 1), (31, .ldc2_w 46, 3), (34, .ddiv, 1), (35, .dadd, 1), (36, .dstore_n 3, 1), (37, .iinc 5 1, 3), (40, .goto (-29), 3), (43, .dload_n 3, 1), (44, .dreturn, 1)] := by decide +kernel
theorem dX4_levelBefore_0 : decode cX4_levelBefore 0 = .ok (.aload_n 0, 1) := fo_dd DX4_levelBefore_0 0 rfl
theorem dX4_levelBefore_1 : decode cX4_levelBefore 1 = .ok (.getfield 9, 3) := fo_dd DX4_levelBefore_0 1 rfl
theorem dX4_levelBefore_4 : decode cX4_levelBefore 4 = .ok (.iconst 0, 1) := fo_dd DX4_levelBefore_0 2 rfl
theorem dX4_levelBefore_5 : decode cX4_levelBefore 5 = .ok (.iaload, 1) := fo_dd DX4_levelBefore_0 3 rfl
theorem dX4_levelBefore_6 : decode cX4_levelBefore 6 = .ok (.i2d, 1) := fo_dd DX4_levelBefore_0 4 rfl
theorem dX4_levelBefore_7 : decode cX4_levelBefore 7 = .ok (.dstore_n 3, 1) := fo_dd DX4_levelBefore_0 5 rfl
theorem dX4_levelBefore_8 : decode cX4_levelBefore 8 = .ok (.iconst 1, 1) := fo_dd DX4_levelBefore_0 6 rfl
theorem dX4_levelBefore_9 : decode cX4_levelBefore 9 = .ok (.istore 5, 2) := fo_dd DX4_levelBefore_0 7 rfl
theorem dX4_levelBefore_11 : decode cX4_levelBefore 11 = .ok (.iload 5, 2) := fo_dd DX4_levelBefore_0 8 rfl
theorem dX4_levelBefore_13 : decode cX4_levelBefore 13 = .ok (.iload_n 1, 1) := fo_dd DX4_levelBefore_0 9 rfl
theorem dX4_levelBefore_14 : decode cX4_levelBefore 14 = .ok (.if_icmp .ge 29, 3) := fo_dd DX4_levelBefore_0 10 rfl
theorem dX4_levelBefore_17 : decode cX4_levelBefore 17 = .ok (.dload_n 3, 1) := fo_dd DX4_levelBefore_0 11 rfl
theorem dX4_levelBefore_18 : decode cX4_levelBefore 18 = .ok (.iload_n 2, 1) := fo_dd DX4_levelBefore_0 12 rfl
theorem dX4_levelBefore_19 : decode cX4_levelBefore 19 = .ok (.i2d, 1) := fo_dd DX4_levelBefore_0 13 rfl
theorem dX4_levelBefore_20 : decode cX4_levelBefore 20 = .ok (.aload_n 0, 1) := fo_dd DX4_levelBefore_0 14 rfl
theorem dX4_levelBefore_21 : decode cX4_levelBefore 21 = .ok (.getfield 9, 3) := fo_dd DX4_levelBefore_0 15 rfl
theorem dX4_levelBefore_24 : decode cX4_levelBefore 24 = .ok (.iload 5, 2) := fo_dd DX4_levelBefore_0 16 rfl
theorem dX4_levelBefore_26 : decode cX4_levelBefore 26 = .ok (.iaload, 1) := fo_dd DX4_levelBefore_0 17 rfl
theorem dX4_levelBefore_27 : decode cX4_levelBefore 27 = .ok (.i2d, 1) := fo_dd DX4_levelBefore_0 18 rfl
theorem dX4_levelBefore_28 : decode cX4_levelBefore 28 = .ok (.dload_n 3, 1) := fo_dd DX4_levelBefore_0 19 rfl
theorem dX4_levelBefore_29 : decode cX4_levelBefore 29 = .ok (.dsub, 1) := fo_dd DX4_levelBefore_0 20 rfl
theorem dX4_levelBefore_30 : decode cX4_levelBefore 30 = .ok (.dmul, 1) := fo_dd DX4_levelBefore_0 21 rfl
theorem dX4_levelBefore_31 : decode cX4_levelBefore 31 = .ok (.ldc2_w 46, 3) := fo_dd DX4_levelBefore_0 22 rfl
theorem dX4_levelBefore_34 : decode cX4_levelBefore 34 = .ok (.ddiv, 1) := fo_dd DX4_levelBefore_0 23 rfl
theorem dX4_levelBefore_35 : decode cX4_levelBefore 35 = .ok (.dadd, 1) := fo_dd DX4_levelBefore_0 24 rfl
theorem dX4_levelBefore_36 : decode cX4_levelBefore 36 = .ok (.dstore_n 3, 1) := fo_dd DX4_levelBefore_0 25 rfl
theorem dX4_levelBefore_37 : decode cX4_levelBefore 37 = .ok (.iinc 5 1, 3) := fo_dd DX4_levelBefore_0 26 rfl
theorem dX4_levelBefore_40 : decode cX4_levelBefore 40 = .ok (.goto (-29), 3) := fo_dd DX4_levelBefore_0 27 rfl
theorem dX4_levelBefore_43 : decode cX4_levelBefore 43 = .ok (.dload_n 3, 1) := fo_dd DX4_levelBefore_0 28 rfl
theorem dX4_levelBefore_44 : decode cX4_levelBefore 44 = .ok (.dreturn, 1) := fo_dd DX4_levelBefore_0 29 rfl
theorem DX4_strays_0 : fo_dl cX4_strays [(0, .iload_n 1, 1), (1, .iconst 5, 1), (2, .if_icmp .ge 5, 3), (5, .iconst 0, 1), (6, .ireturn, 1), (7, .iload_n 1, 1), (8, .iconst 5, 1), (9, .isub, 1), (10, .istore_n 3, 1), (11, .aload_n 0, 1), (12, .aload_n 0, 1), (13, .getfield 9, 3), (16, .iload_n 3, 1), (17, .iconst 5, 1), (18, .invokevirtual 48, 3), (21, .istore 4, 2), (23, .iconst 0, 1), (24, .istore 5, 2), (26, .iload 5, 2), (28, .iconst 5, 1), (29, .if_icmp .ge 31, 3), (32, .aload_n 0, 1), (33, .getfield 18, 3), (36, .iload 5, 2), (38, .aload_n 0, 1), (39, .getfield 9, 3), (42, .iload_n 3, 1), (43, .iload 5, 2), (45, .iadd, 1), (46, .iaload, 1), (47, .iload 4, 2), (49, .isub, 1), (50, .invokestatic 52, 3), (53, .iastore, 1), (54, .iinc 5 1, 3), (57, .goto (-31), 3), (60, .iconst 1, 1), (61, .aload_n 0, 1), (62, .aload_n 0, 1), (63, .getfield 18, 3), (66, .iconst 0, 1), (67, .iconst 5, 1), (68, .invokevirtual 48, 3), (71, .invokestatic 40, 3), (74, .istore 5, 2), (76, .aload_n 0, 1), (77, .getfield 9, 3), (80, .iload_n 1, 1), (81, .iaload, 1), (82, .iload 4, 2), (84, .isub, 1), (85, .invokestatic 52, 3), (88, .iload_n 2, 1), (89, .iload 5, 2), (91, .imul, 1), (92, .if_icmp .le 7, 3), (95, .iconst 1, 1), (96, .goto 4, 3), (99, .iconst 0, 1), (100, .ireturn, 1)] := by decide +kernel
theorem dX4_strays_0 : decode cX4_strays 0 = .ok (.iload_n 1, 1) := fo_dd DX4_strays_0 0 rfl
theorem dX4_strays_1 : decode cX4_strays 1 = .ok (.iconst 5, 1) := fo_dd DX4_strays_0 1 rfl
theorem dX4_strays_2 : decode cX4_strays 2 = .ok (.if_icmp .ge 5, 3) := fo_dd DX4_strays_0 2 rfl
theorem dX4_strays_5 : decode cX4_strays 5 = .ok (.iconst 0, 1) := fo_dd DX4_strays_0 3 rfl
theorem dX4_strays_6 : decode cX4_strays 6 = .ok (.ireturn, 1) := fo_dd DX4_strays_0 4 rfl
theorem dX4_strays_7 : decode cX4_strays 7 = .ok (.iload_n 1, 1) := fo_dd DX4_strays_0 5 rfl
theorem dX4_strays_8 : decode cX4_strays 8 = .ok (.iconst 5, 1) := fo_dd DX4_strays_0 6 rfl
theorem dX4_strays_9 : decode cX4_strays 9 = .ok (.isub, 1) := fo_dd DX4_strays_0 7 rfl
theorem dX4_strays_10 : decode cX4_strays 10 = .ok (.istore_n 3, 1) := fo_dd DX4_strays_0 8 rfl
theorem dX4_strays_11 : decode cX4_strays 11 = .ok (.aload_n 0, 1) := fo_dd DX4_strays_0 9 rfl
theorem dX4_strays_12 : decode cX4_strays 12 = .ok (.aload_n 0, 1) := fo_dd DX4_strays_0 10 rfl
theorem dX4_strays_13 : decode cX4_strays 13 = .ok (.getfield 9, 3) := fo_dd DX4_strays_0 11 rfl
theorem dX4_strays_16 : decode cX4_strays 16 = .ok (.iload_n 3, 1) := fo_dd DX4_strays_0 12 rfl
theorem dX4_strays_17 : decode cX4_strays 17 = .ok (.iconst 5, 1) := fo_dd DX4_strays_0 13 rfl
theorem dX4_strays_18 : decode cX4_strays 18 = .ok (.invokevirtual 48, 3) := fo_dd DX4_strays_0 14 rfl
theorem dX4_strays_21 : decode cX4_strays 21 = .ok (.istore 4, 2) := fo_dd DX4_strays_0 15 rfl
theorem dX4_strays_23 : decode cX4_strays 23 = .ok (.iconst 0, 1) := fo_dd DX4_strays_0 16 rfl
theorem dX4_strays_24 : decode cX4_strays 24 = .ok (.istore 5, 2) := fo_dd DX4_strays_0 17 rfl
theorem dX4_strays_26 : decode cX4_strays 26 = .ok (.iload 5, 2) := fo_dd DX4_strays_0 18 rfl
theorem dX4_strays_28 : decode cX4_strays 28 = .ok (.iconst 5, 1) := fo_dd DX4_strays_0 19 rfl
theorem dX4_strays_29 : decode cX4_strays 29 = .ok (.if_icmp .ge 31, 3) := fo_dd DX4_strays_0 20 rfl
theorem dX4_strays_32 : decode cX4_strays 32 = .ok (.aload_n 0, 1) := fo_dd DX4_strays_0 21 rfl
theorem dX4_strays_33 : decode cX4_strays 33 = .ok (.getfield 18, 3) := fo_dd DX4_strays_0 22 rfl
theorem dX4_strays_36 : decode cX4_strays 36 = .ok (.iload 5, 2) := fo_dd DX4_strays_0 23 rfl
theorem dX4_strays_38 : decode cX4_strays 38 = .ok (.aload_n 0, 1) := fo_dd DX4_strays_0 24 rfl
theorem dX4_strays_39 : decode cX4_strays 39 = .ok (.getfield 9, 3) := fo_dd DX4_strays_0 25 rfl
theorem dX4_strays_42 : decode cX4_strays 42 = .ok (.iload_n 3, 1) := fo_dd DX4_strays_0 26 rfl
theorem dX4_strays_43 : decode cX4_strays 43 = .ok (.iload 5, 2) := fo_dd DX4_strays_0 27 rfl
theorem dX4_strays_45 : decode cX4_strays 45 = .ok (.iadd, 1) := fo_dd DX4_strays_0 28 rfl
theorem dX4_strays_46 : decode cX4_strays 46 = .ok (.iaload, 1) := fo_dd DX4_strays_0 29 rfl
theorem dX4_strays_47 : decode cX4_strays 47 = .ok (.iload 4, 2) := fo_dd DX4_strays_0 30 rfl
theorem dX4_strays_49 : decode cX4_strays 49 = .ok (.isub, 1) := fo_dd DX4_strays_0 31 rfl
theorem dX4_strays_50 : decode cX4_strays 50 = .ok (.invokestatic 52, 3) := fo_dd DX4_strays_0 32 rfl
theorem dX4_strays_53 : decode cX4_strays 53 = .ok (.iastore, 1) := fo_dd DX4_strays_0 33 rfl
theorem dX4_strays_54 : decode cX4_strays 54 = .ok (.iinc 5 1, 3) := fo_dd DX4_strays_0 34 rfl
theorem dX4_strays_57 : decode cX4_strays 57 = .ok (.goto (-31), 3) := fo_dd DX4_strays_0 35 rfl
theorem dX4_strays_60 : decode cX4_strays 60 = .ok (.iconst 1, 1) := fo_dd DX4_strays_0 36 rfl
theorem dX4_strays_61 : decode cX4_strays 61 = .ok (.aload_n 0, 1) := fo_dd DX4_strays_0 37 rfl
theorem dX4_strays_62 : decode cX4_strays 62 = .ok (.aload_n 0, 1) := fo_dd DX4_strays_0 38 rfl
theorem dX4_strays_63 : decode cX4_strays 63 = .ok (.getfield 18, 3) := fo_dd DX4_strays_0 39 rfl
theorem dX4_strays_66 : decode cX4_strays 66 = .ok (.iconst 0, 1) := fo_dd DX4_strays_0 40 rfl
theorem dX4_strays_67 : decode cX4_strays 67 = .ok (.iconst 5, 1) := fo_dd DX4_strays_0 41 rfl
theorem dX4_strays_68 : decode cX4_strays 68 = .ok (.invokevirtual 48, 3) := fo_dd DX4_strays_0 42 rfl
theorem dX4_strays_71 : decode cX4_strays 71 = .ok (.invokestatic 40, 3) := fo_dd DX4_strays_0 43 rfl
theorem dX4_strays_74 : decode cX4_strays 74 = .ok (.istore 5, 2) := fo_dd DX4_strays_0 44 rfl
theorem dX4_strays_76 : decode cX4_strays 76 = .ok (.aload_n 0, 1) := fo_dd DX4_strays_0 45 rfl
theorem dX4_strays_77 : decode cX4_strays 77 = .ok (.getfield 9, 3) := fo_dd DX4_strays_0 46 rfl
theorem dX4_strays_80 : decode cX4_strays 80 = .ok (.iload_n 1, 1) := fo_dd DX4_strays_0 47 rfl
theorem dX4_strays_81 : decode cX4_strays 81 = .ok (.iaload, 1) := fo_dd DX4_strays_0 48 rfl
theorem dX4_strays_82 : decode cX4_strays 82 = .ok (.iload 4, 2) := fo_dd DX4_strays_0 49 rfl
theorem dX4_strays_84 : decode cX4_strays 84 = .ok (.isub, 1) := fo_dd DX4_strays_0 50 rfl
theorem dX4_strays_85 : decode cX4_strays 85 = .ok (.invokestatic 52, 3) := fo_dd DX4_strays_0 51 rfl
theorem dX4_strays_88 : decode cX4_strays 88 = .ok (.iload_n 2, 1) := fo_dd DX4_strays_0 52 rfl
theorem dX4_strays_89 : decode cX4_strays 89 = .ok (.iload 5, 2) := fo_dd DX4_strays_0 53 rfl
theorem dX4_strays_91 : decode cX4_strays 91 = .ok (.imul, 1) := fo_dd DX4_strays_0 54 rfl
theorem dX4_strays_92 : decode cX4_strays 92 = .ok (.if_icmp .le 7, 3) := fo_dd DX4_strays_0 55 rfl
theorem dX4_strays_95 : decode cX4_strays 95 = .ok (.iconst 1, 1) := fo_dd DX4_strays_0 56 rfl
theorem dX4_strays_96 : decode cX4_strays 96 = .ok (.goto 4, 3) := fo_dd DX4_strays_0 57 rfl
theorem dX4_strays_99 : decode cX4_strays 99 = .ok (.iconst 0, 1) := fo_dd DX4_strays_0 58 rfl
theorem dX4_strays_100 : decode cX4_strays 100 = .ok (.ireturn, 1) := fo_dd DX4_strays_0 59 rfl
theorem DX4_countStrays_0 : fo_dl cX4_countStrays [(0, .iconst 0, 1), (1, .istore_n 2, 1), (2, .iconst 0, 1), (3, .istore_n 3, 1), (4, .iload_n 3, 1), (5, .aload_n 0, 1), (6, .getfield 30, 3), (9, .if_icmp .ge 21, 3), (12, .aload_n 0, 1), (13, .iload_n 3, 1), (14, .iload_n 1, 1), (15, .invokevirtual 56, 3), (18, .ifCond .eq 6, 3), (21, .iinc 2 1, 3), (24, .iinc 3 1, 3), (27, .goto (-23), 3), (30, .iload_n 2, 1), (31, .ireturn, 1)] := by decide +kernel
theorem dX4_countStrays_0 : decode cX4_countStrays 0 = .ok (.iconst 0, 1) := fo_dd DX4_countStrays_0 0 rfl
theorem dX4_countStrays_1 : decode cX4_countStrays 1 = .ok (.istore_n 2, 1) := fo_dd DX4_countStrays_0 1 rfl
theorem dX4_countStrays_2 : decode cX4_countStrays 2 = .ok (.iconst 0, 1) := fo_dd DX4_countStrays_0 2 rfl
theorem dX4_countStrays_3 : decode cX4_countStrays 3 = .ok (.istore_n 3, 1) := fo_dd DX4_countStrays_0 3 rfl
theorem dX4_countStrays_4 : decode cX4_countStrays 4 = .ok (.iload_n 3, 1) := fo_dd DX4_countStrays_0 4 rfl
theorem dX4_countStrays_5 : decode cX4_countStrays 5 = .ok (.aload_n 0, 1) := fo_dd DX4_countStrays_0 5 rfl
theorem dX4_countStrays_6 : decode cX4_countStrays 6 = .ok (.getfield 30, 3) := fo_dd DX4_countStrays_0 6 rfl
theorem dX4_countStrays_9 : decode cX4_countStrays 9 = .ok (.if_icmp .ge 21, 3) := fo_dd DX4_countStrays_0 7 rfl
theorem dX4_countStrays_12 : decode cX4_countStrays 12 = .ok (.aload_n 0, 1) := fo_dd DX4_countStrays_0 8 rfl
theorem dX4_countStrays_13 : decode cX4_countStrays 13 = .ok (.iload_n 3, 1) := fo_dd DX4_countStrays_0 9 rfl
theorem dX4_countStrays_14 : decode cX4_countStrays 14 = .ok (.iload_n 1, 1) := fo_dd DX4_countStrays_0 10 rfl
theorem dX4_countStrays_15 : decode cX4_countStrays 15 = .ok (.invokevirtual 56, 3) := fo_dd DX4_countStrays_0 11 rfl
theorem dX4_countStrays_18 : decode cX4_countStrays 18 = .ok (.ifCond .eq 6, 3) := fo_dd DX4_countStrays_0 12 rfl
theorem dX4_countStrays_21 : decode cX4_countStrays 21 = .ok (.iinc 2 1, 3) := fo_dd DX4_countStrays_0 13 rfl
theorem dX4_countStrays_24 : decode cX4_countStrays 24 = .ok (.iinc 3 1, 3) := fo_dd DX4_countStrays_0 14 rfl
theorem dX4_countStrays_27 : decode cX4_countStrays 27 = .ok (.goto (-23), 3) := fo_dd DX4_countStrays_0 15 rfl
theorem dX4_countStrays_30 : decode cX4_countStrays 30 = .ok (.iload_n 2, 1) := fo_dd DX4_countStrays_0 16 rfl
theorem dX4_countStrays_31 : decode cX4_countStrays 31 = .ok (.ireturn, 1) := fo_dd DX4_countStrays_0 17 rfl
theorem DX4_longestClimb_0 : fo_dl cX4_longestClimb [(0, .iconst 0, 1), (1, .istore_n 1, 1), (2, .iconst 0, 1), (3, .istore_n 2, 1), (4, .iconst 0, 1), (5, .istore_n 3, 1), (6, .iload_n 3, 1), (7, .aload_n 0, 1), (8, .getfield 30, 3), (11, .if_icmp .ge 44, 3), (14, .iload_n 3, 1), (15, .ifCond .le 26, 3), (18, .aload_n 0, 1), (19, .getfield 9, 3), (22, .iload_n 3, 1), (23, .iaload, 1), (24, .aload_n 0, 1), (25, .getfield 9, 3), (28, .iload_n 3, 1), (29, .iconst 1, 1), (30, .isub, 1), (31, .iaload, 1), (32, .if_icmp .le 9, 3), (35, .iload_n 2, 1), (36, .iconst 1, 1), (37, .iadd, 1), (38, .goto 4, 3), (41, .iconst 1, 1), (42, .istore_n 2, 1), (43, .iload_n 1, 1), (44, .iload_n 2, 1), (45, .invokestatic 40, 3), (48, .istore_n 1, 1), (49, .iinc 3 1, 3), (52, .goto (-46), 3), (55, .iload_n 1, 1), (56, .ireturn, 1)] := by decide +kernel
theorem dX4_longestClimb_0 : decode cX4_longestClimb 0 = .ok (.iconst 0, 1) := fo_dd DX4_longestClimb_0 0 rfl
theorem dX4_longestClimb_1 : decode cX4_longestClimb 1 = .ok (.istore_n 1, 1) := fo_dd DX4_longestClimb_0 1 rfl
theorem dX4_longestClimb_2 : decode cX4_longestClimb 2 = .ok (.iconst 0, 1) := fo_dd DX4_longestClimb_0 2 rfl
theorem dX4_longestClimb_3 : decode cX4_longestClimb 3 = .ok (.istore_n 2, 1) := fo_dd DX4_longestClimb_0 3 rfl
theorem dX4_longestClimb_4 : decode cX4_longestClimb 4 = .ok (.iconst 0, 1) := fo_dd DX4_longestClimb_0 4 rfl
theorem dX4_longestClimb_5 : decode cX4_longestClimb 5 = .ok (.istore_n 3, 1) := fo_dd DX4_longestClimb_0 5 rfl
theorem dX4_longestClimb_6 : decode cX4_longestClimb 6 = .ok (.iload_n 3, 1) := fo_dd DX4_longestClimb_0 6 rfl
theorem dX4_longestClimb_7 : decode cX4_longestClimb 7 = .ok (.aload_n 0, 1) := fo_dd DX4_longestClimb_0 7 rfl
theorem dX4_longestClimb_8 : decode cX4_longestClimb 8 = .ok (.getfield 30, 3) := fo_dd DX4_longestClimb_0 8 rfl
theorem dX4_longestClimb_11 : decode cX4_longestClimb 11 = .ok (.if_icmp .ge 44, 3) := fo_dd DX4_longestClimb_0 9 rfl
theorem dX4_longestClimb_14 : decode cX4_longestClimb 14 = .ok (.iload_n 3, 1) := fo_dd DX4_longestClimb_0 10 rfl
theorem dX4_longestClimb_15 : decode cX4_longestClimb 15 = .ok (.ifCond .le 26, 3) := fo_dd DX4_longestClimb_0 11 rfl
theorem dX4_longestClimb_18 : decode cX4_longestClimb 18 = .ok (.aload_n 0, 1) := fo_dd DX4_longestClimb_0 12 rfl
theorem dX4_longestClimb_19 : decode cX4_longestClimb 19 = .ok (.getfield 9, 3) := fo_dd DX4_longestClimb_0 13 rfl
theorem dX4_longestClimb_22 : decode cX4_longestClimb 22 = .ok (.iload_n 3, 1) := fo_dd DX4_longestClimb_0 14 rfl
theorem dX4_longestClimb_23 : decode cX4_longestClimb 23 = .ok (.iaload, 1) := fo_dd DX4_longestClimb_0 15 rfl
theorem dX4_longestClimb_24 : decode cX4_longestClimb 24 = .ok (.aload_n 0, 1) := fo_dd DX4_longestClimb_0 16 rfl
theorem dX4_longestClimb_25 : decode cX4_longestClimb 25 = .ok (.getfield 9, 3) := fo_dd DX4_longestClimb_0 17 rfl
theorem dX4_longestClimb_28 : decode cX4_longestClimb 28 = .ok (.iload_n 3, 1) := fo_dd DX4_longestClimb_0 18 rfl
theorem dX4_longestClimb_29 : decode cX4_longestClimb 29 = .ok (.iconst 1, 1) := fo_dd DX4_longestClimb_0 19 rfl
theorem dX4_longestClimb_30 : decode cX4_longestClimb 30 = .ok (.isub, 1) := fo_dd DX4_longestClimb_0 20 rfl
theorem dX4_longestClimb_31 : decode cX4_longestClimb 31 = .ok (.iaload, 1) := fo_dd DX4_longestClimb_0 21 rfl
theorem dX4_longestClimb_32 : decode cX4_longestClimb 32 = .ok (.if_icmp .le 9, 3) := fo_dd DX4_longestClimb_0 22 rfl
theorem dX4_longestClimb_35 : decode cX4_longestClimb 35 = .ok (.iload_n 2, 1) := fo_dd DX4_longestClimb_0 23 rfl
theorem dX4_longestClimb_36 : decode cX4_longestClimb 36 = .ok (.iconst 1, 1) := fo_dd DX4_longestClimb_0 24 rfl
theorem dX4_longestClimb_37 : decode cX4_longestClimb 37 = .ok (.iadd, 1) := fo_dd DX4_longestClimb_0 25 rfl
theorem dX4_longestClimb_38 : decode cX4_longestClimb 38 = .ok (.goto 4, 3) := fo_dd DX4_longestClimb_0 26 rfl
theorem dX4_longestClimb_41 : decode cX4_longestClimb 41 = .ok (.iconst 1, 1) := fo_dd DX4_longestClimb_0 27 rfl
theorem dX4_longestClimb_42 : decode cX4_longestClimb 42 = .ok (.istore_n 2, 1) := fo_dd DX4_longestClimb_0 28 rfl
theorem dX4_longestClimb_43 : decode cX4_longestClimb 43 = .ok (.iload_n 1, 1) := fo_dd DX4_longestClimb_0 29 rfl
theorem dX4_longestClimb_44 : decode cX4_longestClimb 44 = .ok (.iload_n 2, 1) := fo_dd DX4_longestClimb_0 30 rfl
theorem dX4_longestClimb_45 : decode cX4_longestClimb 45 = .ok (.invokestatic 40, 3) := fo_dd DX4_longestClimb_0 31 rfl
theorem dX4_longestClimb_48 : decode cX4_longestClimb 48 = .ok (.istore_n 1, 1) := fo_dd DX4_longestClimb_0 32 rfl
theorem dX4_longestClimb_49 : decode cX4_longestClimb 49 = .ok (.iinc 3 1, 3) := fo_dd DX4_longestClimb_0 33 rfl
theorem dX4_longestClimb_52 : decode cX4_longestClimb 52 = .ok (.goto (-46), 3) := fo_dd DX4_longestClimb_0 34 rfl
theorem dX4_longestClimb_55 : decode cX4_longestClimb 55 = .ok (.iload_n 1, 1) := fo_dd DX4_longestClimb_0 35 rfl
theorem dX4_longestClimb_56 : decode cX4_longestClimb 56 = .ok (.ireturn, 1) := fo_dd DX4_longestClimb_0 36 rfl
theorem DX4_countBetween_0 : fo_dl cX4_countBetween [(0, .iconst 0, 1), (1, .istore_n 3, 1), (2, .iconst 0, 1), (3, .istore 4, 2), (5, .iload 4, 2), (7, .aload_n 0, 1), (8, .getfield 30, 3), (11, .if_icmp .ge 34, 3), (14, .aload_n 0, 1), (15, .getfield 9, 3), (18, .iload 4, 2), (20, .iaload, 1), (21, .iload_n 1, 1), (22, .if_icmp .lt 17, 3), (25, .aload_n 0, 1), (26, .getfield 9, 3), (29, .iload 4, 2), (31, .iaload, 1), (32, .iload_n 2, 1), (33, .if_icmp .gt 6, 3), (36, .iinc 3 1, 3), (39, .iinc 4 1, 3), (42, .goto (-37), 3), (45, .iload_n 3, 1), (46, .ireturn, 1)] := by decide +kernel
theorem dX4_countBetween_0 : decode cX4_countBetween 0 = .ok (.iconst 0, 1) := fo_dd DX4_countBetween_0 0 rfl
theorem dX4_countBetween_1 : decode cX4_countBetween 1 = .ok (.istore_n 3, 1) := fo_dd DX4_countBetween_0 1 rfl
theorem dX4_countBetween_2 : decode cX4_countBetween 2 = .ok (.iconst 0, 1) := fo_dd DX4_countBetween_0 2 rfl
theorem dX4_countBetween_3 : decode cX4_countBetween 3 = .ok (.istore 4, 2) := fo_dd DX4_countBetween_0 3 rfl
theorem dX4_countBetween_5 : decode cX4_countBetween 5 = .ok (.iload 4, 2) := fo_dd DX4_countBetween_0 4 rfl
theorem dX4_countBetween_7 : decode cX4_countBetween 7 = .ok (.aload_n 0, 1) := fo_dd DX4_countBetween_0 5 rfl
theorem dX4_countBetween_8 : decode cX4_countBetween 8 = .ok (.getfield 30, 3) := fo_dd DX4_countBetween_0 6 rfl
theorem dX4_countBetween_11 : decode cX4_countBetween 11 = .ok (.if_icmp .ge 34, 3) := fo_dd DX4_countBetween_0 7 rfl
theorem dX4_countBetween_14 : decode cX4_countBetween 14 = .ok (.aload_n 0, 1) := fo_dd DX4_countBetween_0 8 rfl
theorem dX4_countBetween_15 : decode cX4_countBetween 15 = .ok (.getfield 9, 3) := fo_dd DX4_countBetween_0 9 rfl
theorem dX4_countBetween_18 : decode cX4_countBetween 18 = .ok (.iload 4, 2) := fo_dd DX4_countBetween_0 10 rfl
theorem dX4_countBetween_20 : decode cX4_countBetween 20 = .ok (.iaload, 1) := fo_dd DX4_countBetween_0 11 rfl
theorem dX4_countBetween_21 : decode cX4_countBetween 21 = .ok (.iload_n 1, 1) := fo_dd DX4_countBetween_0 12 rfl
theorem dX4_countBetween_22 : decode cX4_countBetween 22 = .ok (.if_icmp .lt 17, 3) := fo_dd DX4_countBetween_0 13 rfl
theorem dX4_countBetween_25 : decode cX4_countBetween 25 = .ok (.aload_n 0, 1) := fo_dd DX4_countBetween_0 14 rfl
theorem dX4_countBetween_26 : decode cX4_countBetween 26 = .ok (.getfield 9, 3) := fo_dd DX4_countBetween_0 15 rfl
theorem dX4_countBetween_29 : decode cX4_countBetween 29 = .ok (.iload 4, 2) := fo_dd DX4_countBetween_0 16 rfl
theorem dX4_countBetween_31 : decode cX4_countBetween 31 = .ok (.iaload, 1) := fo_dd DX4_countBetween_0 17 rfl
theorem dX4_countBetween_32 : decode cX4_countBetween 32 = .ok (.iload_n 2, 1) := fo_dd DX4_countBetween_0 18 rfl
theorem dX4_countBetween_33 : decode cX4_countBetween 33 = .ok (.if_icmp .gt 6, 3) := fo_dd DX4_countBetween_0 19 rfl
theorem dX4_countBetween_36 : decode cX4_countBetween 36 = .ok (.iinc 3 1, 3) := fo_dd DX4_countBetween_0 20 rfl
theorem dX4_countBetween_39 : decode cX4_countBetween 39 = .ok (.iinc 4 1, 3) := fo_dd DX4_countBetween_0 21 rfl
theorem dX4_countBetween_42 : decode cX4_countBetween 42 = .ok (.goto (-37), 3) := fo_dd DX4_countBetween_0 22 rfl
theorem dX4_countBetween_45 : decode cX4_countBetween 45 = .ok (.iload_n 3, 1) := fo_dd DX4_countBetween_0 23 rfl
theorem dX4_countBetween_46 : decode cX4_countBetween 46 = .ok (.ireturn, 1) := fo_dd DX4_countBetween_0 24 rfl
theorem DX4_isSound_0 : fo_dl cX4_isSound [(0, .aload_n 0, 1), (1, .getfield 30, 3), (4, .ifCond .lt 12, 3), (7, .aload_n 0, 1), (8, .getfield 30, 3), (11, .bipush 30, 2), (13, .if_icmp .le 5, 3), (16, .iconst 0, 1), (17, .ireturn, 1), (18, .aload_n 0, 1), (19, .iconst 0, 1), (20, .sipush 999, 3), (23, .invokevirtual 60, 3), (26, .aload_n 0, 1), (27, .getfield 30, 3), (30, .if_icmp .ne 7, 3), (33, .iconst 1, 1), (34, .goto 4, 3), (37, .iconst 0, 1), (38, .ireturn, 1)] := by decide +kernel
theorem dX4_isSound_0 : decode cX4_isSound 0 = .ok (.aload_n 0, 1) := fo_dd DX4_isSound_0 0 rfl
theorem dX4_isSound_1 : decode cX4_isSound 1 = .ok (.getfield 30, 3) := fo_dd DX4_isSound_0 1 rfl
theorem dX4_isSound_4 : decode cX4_isSound 4 = .ok (.ifCond .lt 12, 3) := fo_dd DX4_isSound_0 2 rfl
theorem dX4_isSound_7 : decode cX4_isSound 7 = .ok (.aload_n 0, 1) := fo_dd DX4_isSound_0 3 rfl
theorem dX4_isSound_8 : decode cX4_isSound 8 = .ok (.getfield 30, 3) := fo_dd DX4_isSound_0 4 rfl
theorem dX4_isSound_11 : decode cX4_isSound 11 = .ok (.bipush 30, 2) := fo_dd DX4_isSound_0 5 rfl
theorem dX4_isSound_13 : decode cX4_isSound 13 = .ok (.if_icmp .le 5, 3) := fo_dd DX4_isSound_0 6 rfl
theorem dX4_isSound_16 : decode cX4_isSound 16 = .ok (.iconst 0, 1) := fo_dd DX4_isSound_0 7 rfl
theorem dX4_isSound_17 : decode cX4_isSound 17 = .ok (.ireturn, 1) := fo_dd DX4_isSound_0 8 rfl
theorem dX4_isSound_18 : decode cX4_isSound 18 = .ok (.aload_n 0, 1) := fo_dd DX4_isSound_0 9 rfl
theorem dX4_isSound_19 : decode cX4_isSound 19 = .ok (.iconst 0, 1) := fo_dd DX4_isSound_0 10 rfl
theorem dX4_isSound_20 : decode cX4_isSound 20 = .ok (.sipush 999, 3) := fo_dd DX4_isSound_0 11 rfl
theorem dX4_isSound_23 : decode cX4_isSound 23 = .ok (.invokevirtual 60, 3) := fo_dd DX4_isSound_0 12 rfl
theorem dX4_isSound_26 : decode cX4_isSound 26 = .ok (.aload_n 0, 1) := fo_dd DX4_isSound_0 13 rfl
theorem dX4_isSound_27 : decode cX4_isSound 27 = .ok (.getfield 30, 3) := fo_dd DX4_isSound_0 14 rfl
theorem dX4_isSound_30 : decode cX4_isSound 30 = .ok (.if_icmp .ne 7, 3) := fo_dd DX4_isSound_0 15 rfl
theorem dX4_isSound_33 : decode cX4_isSound 33 = .ok (.iconst 1, 1) := fo_dd DX4_isSound_0 16 rfl
theorem dX4_isSound_34 : decode cX4_isSound 34 = .ok (.goto 4, 3) := fo_dd DX4_isSound_0 17 rfl
theorem dX4_isSound_37 : decode cX4_isSound 37 = .ok (.iconst 0, 1) := fo_dd DX4_isSound_0 18 rfl
theorem dX4_isSound_38 : decode cX4_isSound 38 = .ok (.ireturn, 1) := fo_dd DX4_isSound_0 19 rfl
theorem DX5_init_0 : fo_dl cX5_init [(0, .aload_n 0, 1), (1, .invokespecial 3, 3), (4, .aload_n 0, 1), (5, .iconst 4, 1), (6, .anewarray 9, 3), (9, .putfield 11, 3), (12, .aload_n 0, 1), (13, .bipush 8, 2), (15, .anewarray 17, 3), (18, .putfield 19, 3), (21, .aload_n 0, 1), (22, .iconst 3, 1), (23, .putfield 23, 3), (26, .iconst 0, 1), (27, .istore_n 1, 1), (28, .iload_n 1, 1), (29, .iconst 4, 1), (30, .if_icmp .ge 22, 3), (33, .aload_n 0, 1), (34, .getfield 11, 3), (37, .iload_n 1, 1), (38, .new 9, 3), (41, .dup, 1), (42, .invokespecial 27, 3), (45, .aastore, 1), (46, .iinc 1 1, 3), (49, .goto (-21), 3), (52, .iconst 0, 1), (53, .istore_n 1, 1), (54, .iload_n 1, 1), (55, .bipush 8, 2), (57, .if_icmp .ge 22, 3), (60, .aload_n 0, 1), (61, .getfield 19, 3), (64, .iload_n 1, 1), (65, .new 17, 3), (68, .dup, 1), (69, .invokespecial 28, 3), (72, .aastore, 1), (73, .iinc 1 1, 3), (76, .goto (-22), 3), (79, .return_, 1)] := by decide +kernel
theorem dX5_init_0 : decode cX5_init 0 = .ok (.aload_n 0, 1) := fo_dd DX5_init_0 0 rfl
theorem dX5_init_1 : decode cX5_init 1 = .ok (.invokespecial 3, 3) := fo_dd DX5_init_0 1 rfl
theorem dX5_init_4 : decode cX5_init 4 = .ok (.aload_n 0, 1) := fo_dd DX5_init_0 2 rfl
theorem dX5_init_5 : decode cX5_init 5 = .ok (.iconst 4, 1) := fo_dd DX5_init_0 3 rfl
theorem dX5_init_6 : decode cX5_init 6 = .ok (.anewarray 9, 3) := fo_dd DX5_init_0 4 rfl
theorem dX5_init_9 : decode cX5_init 9 = .ok (.putfield 11, 3) := fo_dd DX5_init_0 5 rfl
theorem dX5_init_12 : decode cX5_init 12 = .ok (.aload_n 0, 1) := fo_dd DX5_init_0 6 rfl
theorem dX5_init_13 : decode cX5_init 13 = .ok (.bipush 8, 2) := fo_dd DX5_init_0 7 rfl
theorem dX5_init_15 : decode cX5_init 15 = .ok (.anewarray 17, 3) := fo_dd DX5_init_0 8 rfl
theorem dX5_init_18 : decode cX5_init 18 = .ok (.putfield 19, 3) := fo_dd DX5_init_0 9 rfl
theorem dX5_init_21 : decode cX5_init 21 = .ok (.aload_n 0, 1) := fo_dd DX5_init_0 10 rfl
theorem dX5_init_22 : decode cX5_init 22 = .ok (.iconst 3, 1) := fo_dd DX5_init_0 11 rfl
theorem dX5_init_23 : decode cX5_init 23 = .ok (.putfield 23, 3) := fo_dd DX5_init_0 12 rfl
theorem dX5_init_26 : decode cX5_init 26 = .ok (.iconst 0, 1) := fo_dd DX5_init_0 13 rfl
theorem dX5_init_27 : decode cX5_init 27 = .ok (.istore_n 1, 1) := fo_dd DX5_init_0 14 rfl
theorem dX5_init_28 : decode cX5_init 28 = .ok (.iload_n 1, 1) := fo_dd DX5_init_0 15 rfl
theorem dX5_init_29 : decode cX5_init 29 = .ok (.iconst 4, 1) := fo_dd DX5_init_0 16 rfl
theorem dX5_init_30 : decode cX5_init 30 = .ok (.if_icmp .ge 22, 3) := fo_dd DX5_init_0 17 rfl
theorem dX5_init_33 : decode cX5_init 33 = .ok (.aload_n 0, 1) := fo_dd DX5_init_0 18 rfl
theorem dX5_init_34 : decode cX5_init 34 = .ok (.getfield 11, 3) := fo_dd DX5_init_0 19 rfl
theorem dX5_init_37 : decode cX5_init 37 = .ok (.iload_n 1, 1) := fo_dd DX5_init_0 20 rfl
theorem dX5_init_38 : decode cX5_init 38 = .ok (.new 9, 3) := fo_dd DX5_init_0 21 rfl
theorem dX5_init_41 : decode cX5_init 41 = .ok (.dup, 1) := fo_dd DX5_init_0 22 rfl
theorem dX5_init_42 : decode cX5_init 42 = .ok (.invokespecial 27, 3) := fo_dd DX5_init_0 23 rfl
theorem dX5_init_45 : decode cX5_init 45 = .ok (.aastore, 1) := fo_dd DX5_init_0 24 rfl
theorem dX5_init_46 : decode cX5_init 46 = .ok (.iinc 1 1, 3) := fo_dd DX5_init_0 25 rfl
theorem dX5_init_49 : decode cX5_init 49 = .ok (.goto (-21), 3) := fo_dd DX5_init_0 26 rfl
theorem dX5_init_52 : decode cX5_init 52 = .ok (.iconst 0, 1) := fo_dd DX5_init_0 27 rfl
theorem dX5_init_53 : decode cX5_init 53 = .ok (.istore_n 1, 1) := fo_dd DX5_init_0 28 rfl
theorem dX5_init_54 : decode cX5_init 54 = .ok (.iload_n 1, 1) := fo_dd DX5_init_0 29 rfl
theorem dX5_init_55 : decode cX5_init 55 = .ok (.bipush 8, 2) := fo_dd DX5_init_0 30 rfl
theorem dX5_init_57 : decode cX5_init 57 = .ok (.if_icmp .ge 22, 3) := fo_dd DX5_init_0 31 rfl
theorem dX5_init_60 : decode cX5_init 60 = .ok (.aload_n 0, 1) := fo_dd DX5_init_0 32 rfl
theorem dX5_init_61 : decode cX5_init 61 = .ok (.getfield 19, 3) := fo_dd DX5_init_0 33 rfl
theorem dX5_init_64 : decode cX5_init 64 = .ok (.iload_n 1, 1) := fo_dd DX5_init_0 34 rfl
theorem dX5_init_65 : decode cX5_init 65 = .ok (.new 17, 3) := fo_dd DX5_init_0 35 rfl
theorem dX5_init_68 : decode cX5_init 68 = .ok (.dup, 1) := fo_dd DX5_init_0 36 rfl
theorem dX5_init_69 : decode cX5_init 69 = .ok (.invokespecial 28, 3) := fo_dd DX5_init_0 37 rfl
theorem dX5_init_72 : decode cX5_init 72 = .ok (.aastore, 1) := fo_dd DX5_init_0 38 rfl
theorem dX5_init_73 : decode cX5_init 73 = .ok (.iinc 1 1, 3) := fo_dd DX5_init_0 39 rfl
theorem dX5_init_76 : decode cX5_init 76 = .ok (.goto (-22), 3) := fo_dd DX5_init_0 40 rfl
theorem dX5_init_79 : decode cX5_init 79 = .ok (.return_, 1) := fo_dd DX5_init_0 41 rfl
theorem DX5_copyFrom_0 : fo_dl cX5_copyFrom [(0, .iconst 0, 1), (1, .istore_n 2, 1), (2, .iload_n 2, 1), (3, .iconst 4, 1), (4, .if_icmp .ge 24, 3), (7, .aload_n 0, 1), (8, .getfield 11, 3), (11, .iload_n 2, 1), (12, .aaload, 1), (13, .aload_n 1, 1), (14, .getfield 11, 3), (17, .iload_n 2, 1), (18, .aaload, 1), (19, .invokevirtual 29, 3), (22, .iinc 2 1, 3), (25, .goto (-23), 3), (28, .iconst 0, 1), (29, .istore_n 2, 1), (30, .iload_n 2, 1), (31, .bipush 8, 2), (33, .if_icmp .ge 24, 3), (36, .aload_n 0, 1), (37, .getfield 19, 3), (40, .iload_n 2, 1), (41, .aaload, 1), (42, .aload_n 1, 1), (43, .getfield 19, 3), (46, .iload_n 2, 1), (47, .aaload, 1), (48, .invokevirtual 33, 3), (51, .iinc 2 1, 3), (54, .goto (-24), 3), (57, .aload_n 0, 1), (58, .aload_n 1, 1), (59, .getfield 36, 3), (62, .putfield 36, 3), (65, .aload_n 0, 1), (66, .aload_n 1, 1), (67, .getfield 23, 3), (70, .putfield 23, 3), (73, .return_, 1)] := by decide +kernel
theorem dX5_copyFrom_0 : decode cX5_copyFrom 0 = .ok (.iconst 0, 1) := fo_dd DX5_copyFrom_0 0 rfl
theorem dX5_copyFrom_1 : decode cX5_copyFrom 1 = .ok (.istore_n 2, 1) := fo_dd DX5_copyFrom_0 1 rfl
theorem dX5_copyFrom_2 : decode cX5_copyFrom 2 = .ok (.iload_n 2, 1) := fo_dd DX5_copyFrom_0 2 rfl
theorem dX5_copyFrom_3 : decode cX5_copyFrom 3 = .ok (.iconst 4, 1) := fo_dd DX5_copyFrom_0 3 rfl
theorem dX5_copyFrom_4 : decode cX5_copyFrom 4 = .ok (.if_icmp .ge 24, 3) := fo_dd DX5_copyFrom_0 4 rfl
theorem dX5_copyFrom_7 : decode cX5_copyFrom 7 = .ok (.aload_n 0, 1) := fo_dd DX5_copyFrom_0 5 rfl
theorem dX5_copyFrom_8 : decode cX5_copyFrom 8 = .ok (.getfield 11, 3) := fo_dd DX5_copyFrom_0 6 rfl
theorem dX5_copyFrom_11 : decode cX5_copyFrom 11 = .ok (.iload_n 2, 1) := fo_dd DX5_copyFrom_0 7 rfl
theorem dX5_copyFrom_12 : decode cX5_copyFrom 12 = .ok (.aaload, 1) := fo_dd DX5_copyFrom_0 8 rfl
theorem dX5_copyFrom_13 : decode cX5_copyFrom 13 = .ok (.aload_n 1, 1) := fo_dd DX5_copyFrom_0 9 rfl
theorem dX5_copyFrom_14 : decode cX5_copyFrom 14 = .ok (.getfield 11, 3) := fo_dd DX5_copyFrom_0 10 rfl
theorem dX5_copyFrom_17 : decode cX5_copyFrom 17 = .ok (.iload_n 2, 1) := fo_dd DX5_copyFrom_0 11 rfl
theorem dX5_copyFrom_18 : decode cX5_copyFrom 18 = .ok (.aaload, 1) := fo_dd DX5_copyFrom_0 12 rfl
theorem dX5_copyFrom_19 : decode cX5_copyFrom 19 = .ok (.invokevirtual 29, 3) := fo_dd DX5_copyFrom_0 13 rfl
theorem dX5_copyFrom_22 : decode cX5_copyFrom 22 = .ok (.iinc 2 1, 3) := fo_dd DX5_copyFrom_0 14 rfl
theorem dX5_copyFrom_25 : decode cX5_copyFrom 25 = .ok (.goto (-23), 3) := fo_dd DX5_copyFrom_0 15 rfl
theorem dX5_copyFrom_28 : decode cX5_copyFrom 28 = .ok (.iconst 0, 1) := fo_dd DX5_copyFrom_0 16 rfl
theorem dX5_copyFrom_29 : decode cX5_copyFrom 29 = .ok (.istore_n 2, 1) := fo_dd DX5_copyFrom_0 17 rfl
theorem dX5_copyFrom_30 : decode cX5_copyFrom 30 = .ok (.iload_n 2, 1) := fo_dd DX5_copyFrom_0 18 rfl
theorem dX5_copyFrom_31 : decode cX5_copyFrom 31 = .ok (.bipush 8, 2) := fo_dd DX5_copyFrom_0 19 rfl
theorem dX5_copyFrom_33 : decode cX5_copyFrom 33 = .ok (.if_icmp .ge 24, 3) := fo_dd DX5_copyFrom_0 20 rfl
theorem dX5_copyFrom_36 : decode cX5_copyFrom 36 = .ok (.aload_n 0, 1) := fo_dd DX5_copyFrom_0 21 rfl
theorem dX5_copyFrom_37 : decode cX5_copyFrom 37 = .ok (.getfield 19, 3) := fo_dd DX5_copyFrom_0 22 rfl
theorem dX5_copyFrom_40 : decode cX5_copyFrom 40 = .ok (.iload_n 2, 1) := fo_dd DX5_copyFrom_0 23 rfl
theorem dX5_copyFrom_41 : decode cX5_copyFrom 41 = .ok (.aaload, 1) := fo_dd DX5_copyFrom_0 24 rfl
theorem dX5_copyFrom_42 : decode cX5_copyFrom 42 = .ok (.aload_n 1, 1) := fo_dd DX5_copyFrom_0 25 rfl
theorem dX5_copyFrom_43 : decode cX5_copyFrom 43 = .ok (.getfield 19, 3) := fo_dd DX5_copyFrom_0 26 rfl
theorem dX5_copyFrom_46 : decode cX5_copyFrom 46 = .ok (.iload_n 2, 1) := fo_dd DX5_copyFrom_0 27 rfl
theorem dX5_copyFrom_47 : decode cX5_copyFrom 47 = .ok (.aaload, 1) := fo_dd DX5_copyFrom_0 28 rfl
theorem dX5_copyFrom_48 : decode cX5_copyFrom 48 = .ok (.invokevirtual 33, 3) := fo_dd DX5_copyFrom_0 29 rfl
theorem dX5_copyFrom_51 : decode cX5_copyFrom 51 = .ok (.iinc 2 1, 3) := fo_dd DX5_copyFrom_0 30 rfl
theorem dX5_copyFrom_54 : decode cX5_copyFrom 54 = .ok (.goto (-24), 3) := fo_dd DX5_copyFrom_0 31 rfl
theorem dX5_copyFrom_57 : decode cX5_copyFrom 57 = .ok (.aload_n 0, 1) := fo_dd DX5_copyFrom_0 32 rfl
theorem dX5_copyFrom_58 : decode cX5_copyFrom 58 = .ok (.aload_n 1, 1) := fo_dd DX5_copyFrom_0 33 rfl
theorem dX5_copyFrom_59 : decode cX5_copyFrom 59 = .ok (.getfield 36, 3) := fo_dd DX5_copyFrom_0 34 rfl
theorem dX5_copyFrom_62 : decode cX5_copyFrom 62 = .ok (.putfield 36, 3) := fo_dd DX5_copyFrom_0 35 rfl
theorem dX5_copyFrom_65 : decode cX5_copyFrom 65 = .ok (.aload_n 0, 1) := fo_dd DX5_copyFrom_0 36 rfl
theorem dX5_copyFrom_66 : decode cX5_copyFrom 66 = .ok (.aload_n 1, 1) := fo_dd DX5_copyFrom_0 37 rfl
theorem dX5_copyFrom_67 : decode cX5_copyFrom 67 = .ok (.getfield 23, 3) := fo_dd DX5_copyFrom_0 38 rfl
theorem dX5_copyFrom_70 : decode cX5_copyFrom 70 = .ok (.putfield 23, 3) := fo_dd DX5_copyFrom_0 39 rfl
theorem dX5_copyFrom_73 : decode cX5_copyFrom 73 = .ok (.return_, 1) := fo_dd DX5_copyFrom_0 40 rfl
theorem DX5_takesProphet_0 : fo_dl cX5_takesProphet [(0, .aload_n 0, 1), (1, .getfield 36, 3), (4, .bipush 8, 2), (6, .if_icmp .ge 14, 3), (9, .aload_n 0, 1), (10, .invokevirtual 39, 3), (13, .ifCond .ne 7, 3), (16, .iconst 1, 1), (17, .goto 4, 3), (20, .iconst 0, 1), (21, .ireturn, 1)] := by decide +kernel
theorem dX5_takesProphet_0 : decode cX5_takesProphet 0 = .ok (.aload_n 0, 1) := fo_dd DX5_takesProphet_0 0 rfl
theorem dX5_takesProphet_1 : decode cX5_takesProphet 1 = .ok (.getfield 36, 3) := fo_dd DX5_takesProphet_0 1 rfl
theorem dX5_takesProphet_4 : decode cX5_takesProphet 4 = .ok (.bipush 8, 2) := fo_dd DX5_takesProphet_0 2 rfl
theorem dX5_takesProphet_6 : decode cX5_takesProphet 6 = .ok (.if_icmp .ge 14, 3) := fo_dd DX5_takesProphet_0 3 rfl
theorem dX5_takesProphet_9 : decode cX5_takesProphet 9 = .ok (.aload_n 0, 1) := fo_dd DX5_takesProphet_0 4 rfl
theorem dX5_takesProphet_10 : decode cX5_takesProphet 10 = .ok (.invokevirtual 39, 3) := fo_dd DX5_takesProphet_0 5 rfl
theorem dX5_takesProphet_13 : decode cX5_takesProphet 13 = .ok (.ifCond .ne 7, 3) := fo_dd DX5_takesProphet_0 6 rfl
theorem dX5_takesProphet_16 : decode cX5_takesProphet 16 = .ok (.iconst 1, 1) := fo_dd DX5_takesProphet_0 7 rfl
theorem dX5_takesProphet_17 : decode cX5_takesProphet 17 = .ok (.goto 4, 3) := fo_dd DX5_takesProphet_0 8 rfl
theorem dX5_takesProphet_20 : decode cX5_takesProphet 20 = .ok (.iconst 0, 1) := fo_dd DX5_takesProphet_0 9 rfl
theorem dX5_takesProphet_21 : decode cX5_takesProphet 21 = .ok (.ireturn, 1) := fo_dd DX5_takesProphet_0 10 rfl
theorem DX5_enlist_0 : fo_dl cX5_enlist [(0, .aload_n 0, 1), (1, .getfield 19, 3), (4, .aload_n 0, 1), (5, .getfield 36, 3), (8, .aaload, 1), (9, .iload_n 1, 1), (10, .iload_n 2, 1), (11, .invokevirtual 43, 3), (14, .aload_n 0, 1), (15, .dup, 1), (16, .getfield 36, 3), (19, .iconst 1, 1), (20, .iadd, 1), (21, .putfield 36, 3), (24, .aload_n 0, 1), (25, .getfield 36, 3), (28, .iconst 1, 1), (29, .isub, 1), (30, .ireturn, 1)] := by decide +kernel
theorem dX5_enlist_0 : decode cX5_enlist 0 = .ok (.aload_n 0, 1) := fo_dd DX5_enlist_0 0 rfl
theorem dX5_enlist_1 : decode cX5_enlist 1 = .ok (.getfield 19, 3) := fo_dd DX5_enlist_0 1 rfl
theorem dX5_enlist_4 : decode cX5_enlist 4 = .ok (.aload_n 0, 1) := fo_dd DX5_enlist_0 2 rfl
theorem dX5_enlist_5 : decode cX5_enlist 5 = .ok (.getfield 36, 3) := fo_dd DX5_enlist_0 3 rfl
theorem dX5_enlist_8 : decode cX5_enlist 8 = .ok (.aaload, 1) := fo_dd DX5_enlist_0 4 rfl
theorem dX5_enlist_9 : decode cX5_enlist 9 = .ok (.iload_n 1, 1) := fo_dd DX5_enlist_0 5 rfl
theorem dX5_enlist_10 : decode cX5_enlist 10 = .ok (.iload_n 2, 1) := fo_dd DX5_enlist_0 6 rfl
theorem dX5_enlist_11 : decode cX5_enlist 11 = .ok (.invokevirtual 43, 3) := fo_dd DX5_enlist_0 7 rfl
theorem dX5_enlist_14 : decode cX5_enlist 14 = .ok (.aload_n 0, 1) := fo_dd DX5_enlist_0 8 rfl
theorem dX5_enlist_15 : decode cX5_enlist 15 = .ok (.dup, 1) := fo_dd DX5_enlist_0 9 rfl
theorem dX5_enlist_16 : decode cX5_enlist 16 = .ok (.getfield 36, 3) := fo_dd DX5_enlist_0 10 rfl
theorem dX5_enlist_19 : decode cX5_enlist 19 = .ok (.iconst 1, 1) := fo_dd DX5_enlist_0 11 rfl
theorem dX5_enlist_20 : decode cX5_enlist 20 = .ok (.iadd, 1) := fo_dd DX5_enlist_0 12 rfl
theorem dX5_enlist_21 : decode cX5_enlist 21 = .ok (.putfield 36, 3) := fo_dd DX5_enlist_0 13 rfl
theorem dX5_enlist_24 : decode cX5_enlist 24 = .ok (.aload_n 0, 1) := fo_dd DX5_enlist_0 14 rfl
theorem dX5_enlist_25 : decode cX5_enlist 25 = .ok (.getfield 36, 3) := fo_dd DX5_enlist_0 15 rfl
theorem dX5_enlist_28 : decode cX5_enlist 28 = .ok (.iconst 1, 1) := fo_dd DX5_enlist_0 16 rfl
theorem dX5_enlist_29 : decode cX5_enlist 29 = .ok (.isub, 1) := fo_dd DX5_enlist_0 17 rfl
theorem dX5_enlist_30 : decode cX5_enlist 30 = .ok (.ireturn, 1) := fo_dd DX5_enlist_0 18 rfl
theorem DX5_append_0 : fo_dl cX5_append [(0, .aload_n 0, 1), (1, .getfield 11, 3), (4, .iload_n 1, 1), (5, .aaload, 1), (6, .astore_n 3, 1), (7, .aload_n 3, 1), (8, .iload_n 2, 1), (9, .invokevirtual 47, 3), (12, .istore 4, 2), (14, .iconst (-1), 1), (15, .istore 5, 2), (17, .dconst 0, 1), (18, .dstore 6, 2), (20, .iconst 0, 1), (21, .istore 8, 2), (23, .iload 8, 2), (25, .aload_n 0, 1), (26, .getfield 36, 3), (29, .if_icmp .ge 71, 3), (32, .aload_n 0, 1), (33, .getfield 19, 3), (36, .iload 8, 2), (38, .aaload, 1), (39, .astore 9, 2), (41, .aload 9, 2), (43, .iload 4, 2), (45, .invokevirtual 51, 3), (48, .ifCond .ne 6, 3), (51, .goto 43, 3), (54, .aload 9, 2), (56, .aload_n 3, 1), (57, .iload 4, 2), (59, .invokevirtual 55, 3), (62, .dstore 10, 2), (64, .aload 9, 2), (66, .iload_n 1, 1), (67, .dload 10, 2), (69, .invokevirtual 59, 3), (72, .iload 5, 2), (74, .iconst (-1), 1), (75, .if_icmp .eq 11, 3), (78, .dload 10, 2), (80, .dload 6, 2), (82, .dcmp .g, 1), (83, .ifCond .ge 11, 3), (86, .iload 8, 2), (88, .istore 5, 2), (90, .dload 10, 2), (92, .dstore 6, 2), (94, .iinc 8 1, 3), (97, .goto (-74), 3), (100, .iload 5, 2), (102, .iconst (-1), 1), (103, .if_icmp .eq 19, 3), (106, .aload_n 0, 1), (107, .getfield 19, 3), (110, .iload 5, 2), (112, .aaload, 1), (113, .getfield 63, 3), (116, .iload_n 1, 1), (117, .dup2, 1), (118, .iaload, 1), (119, .iconst 1, 1), (120, .iadd, 1)] := by decide +kernel
theorem dX5_append_0 : decode cX5_append 0 = .ok (.aload_n 0, 1) := fo_dd DX5_append_0 0 rfl
theorem dX5_append_1 : decode cX5_append 1 = .ok (.getfield 11, 3) := fo_dd DX5_append_0 1 rfl
theorem dX5_append_4 : decode cX5_append 4 = .ok (.iload_n 1, 1) := fo_dd DX5_append_0 2 rfl
theorem dX5_append_5 : decode cX5_append 5 = .ok (.aaload, 1) := fo_dd DX5_append_0 3 rfl
theorem dX5_append_6 : decode cX5_append 6 = .ok (.astore_n 3, 1) := fo_dd DX5_append_0 4 rfl
theorem dX5_append_7 : decode cX5_append 7 = .ok (.aload_n 3, 1) := fo_dd DX5_append_0 5 rfl
theorem dX5_append_8 : decode cX5_append 8 = .ok (.iload_n 2, 1) := fo_dd DX5_append_0 6 rfl
theorem dX5_append_9 : decode cX5_append 9 = .ok (.invokevirtual 47, 3) := fo_dd DX5_append_0 7 rfl
theorem dX5_append_12 : decode cX5_append 12 = .ok (.istore 4, 2) := fo_dd DX5_append_0 8 rfl
theorem dX5_append_14 : decode cX5_append 14 = .ok (.iconst (-1), 1) := fo_dd DX5_append_0 9 rfl
theorem dX5_append_15 : decode cX5_append 15 = .ok (.istore 5, 2) := fo_dd DX5_append_0 10 rfl
theorem dX5_append_17 : decode cX5_append 17 = .ok (.dconst 0, 1) := fo_dd DX5_append_0 11 rfl
theorem dX5_append_18 : decode cX5_append 18 = .ok (.dstore 6, 2) := fo_dd DX5_append_0 12 rfl
theorem dX5_append_20 : decode cX5_append 20 = .ok (.iconst 0, 1) := fo_dd DX5_append_0 13 rfl
theorem dX5_append_21 : decode cX5_append 21 = .ok (.istore 8, 2) := fo_dd DX5_append_0 14 rfl
theorem dX5_append_23 : decode cX5_append 23 = .ok (.iload 8, 2) := fo_dd DX5_append_0 15 rfl
theorem dX5_append_25 : decode cX5_append 25 = .ok (.aload_n 0, 1) := fo_dd DX5_append_0 16 rfl
theorem dX5_append_26 : decode cX5_append 26 = .ok (.getfield 36, 3) := fo_dd DX5_append_0 17 rfl
theorem dX5_append_29 : decode cX5_append 29 = .ok (.if_icmp .ge 71, 3) := fo_dd DX5_append_0 18 rfl
theorem dX5_append_32 : decode cX5_append 32 = .ok (.aload_n 0, 1) := fo_dd DX5_append_0 19 rfl
theorem dX5_append_33 : decode cX5_append 33 = .ok (.getfield 19, 3) := fo_dd DX5_append_0 20 rfl
theorem dX5_append_36 : decode cX5_append 36 = .ok (.iload 8, 2) := fo_dd DX5_append_0 21 rfl
theorem dX5_append_38 : decode cX5_append 38 = .ok (.aaload, 1) := fo_dd DX5_append_0 22 rfl
theorem dX5_append_39 : decode cX5_append 39 = .ok (.astore 9, 2) := fo_dd DX5_append_0 23 rfl
theorem dX5_append_41 : decode cX5_append 41 = .ok (.aload 9, 2) := fo_dd DX5_append_0 24 rfl
theorem dX5_append_43 : decode cX5_append 43 = .ok (.iload 4, 2) := fo_dd DX5_append_0 25 rfl
theorem dX5_append_45 : decode cX5_append 45 = .ok (.invokevirtual 51, 3) := fo_dd DX5_append_0 26 rfl
theorem dX5_append_48 : decode cX5_append 48 = .ok (.ifCond .ne 6, 3) := fo_dd DX5_append_0 27 rfl
theorem dX5_append_51 : decode cX5_append 51 = .ok (.goto 43, 3) := fo_dd DX5_append_0 28 rfl
theorem dX5_append_54 : decode cX5_append 54 = .ok (.aload 9, 2) := fo_dd DX5_append_0 29 rfl
theorem dX5_append_56 : decode cX5_append 56 = .ok (.aload_n 3, 1) := fo_dd DX5_append_0 30 rfl
theorem dX5_append_57 : decode cX5_append 57 = .ok (.iload 4, 2) := fo_dd DX5_append_0 31 rfl
theorem dX5_append_59 : decode cX5_append 59 = .ok (.invokevirtual 55, 3) := fo_dd DX5_append_0 32 rfl
theorem dX5_append_62 : decode cX5_append 62 = .ok (.dstore 10, 2) := fo_dd DX5_append_0 33 rfl
theorem dX5_append_64 : decode cX5_append 64 = .ok (.aload 9, 2) := fo_dd DX5_append_0 34 rfl
theorem dX5_append_66 : decode cX5_append 66 = .ok (.iload_n 1, 1) := fo_dd DX5_append_0 35 rfl
theorem dX5_append_67 : decode cX5_append 67 = .ok (.dload 10, 2) := fo_dd DX5_append_0 36 rfl
theorem dX5_append_69 : decode cX5_append 69 = .ok (.invokevirtual 59, 3) := fo_dd DX5_append_0 37 rfl
theorem dX5_append_72 : decode cX5_append 72 = .ok (.iload 5, 2) := fo_dd DX5_append_0 38 rfl
theorem dX5_append_74 : decode cX5_append 74 = .ok (.iconst (-1), 1) := fo_dd DX5_append_0 39 rfl
theorem dX5_append_75 : decode cX5_append 75 = .ok (.if_icmp .eq 11, 3) := fo_dd DX5_append_0 40 rfl
theorem dX5_append_78 : decode cX5_append 78 = .ok (.dload 10, 2) := fo_dd DX5_append_0 41 rfl
theorem dX5_append_80 : decode cX5_append 80 = .ok (.dload 6, 2) := fo_dd DX5_append_0 42 rfl
theorem dX5_append_82 : decode cX5_append 82 = .ok (.dcmp .g, 1) := fo_dd DX5_append_0 43 rfl
theorem dX5_append_83 : decode cX5_append 83 = .ok (.ifCond .ge 11, 3) := fo_dd DX5_append_0 44 rfl
theorem dX5_append_86 : decode cX5_append 86 = .ok (.iload 8, 2) := fo_dd DX5_append_0 45 rfl
theorem dX5_append_88 : decode cX5_append 88 = .ok (.istore 5, 2) := fo_dd DX5_append_0 46 rfl
theorem dX5_append_90 : decode cX5_append 90 = .ok (.dload 10, 2) := fo_dd DX5_append_0 47 rfl
theorem dX5_append_92 : decode cX5_append 92 = .ok (.dstore 6, 2) := fo_dd DX5_append_0 48 rfl
theorem dX5_append_94 : decode cX5_append 94 = .ok (.iinc 8 1, 3) := fo_dd DX5_append_0 49 rfl
theorem dX5_append_97 : decode cX5_append 97 = .ok (.goto (-74), 3) := fo_dd DX5_append_0 50 rfl
theorem dX5_append_100 : decode cX5_append 100 = .ok (.iload 5, 2) := fo_dd DX5_append_0 51 rfl
theorem dX5_append_102 : decode cX5_append 102 = .ok (.iconst (-1), 1) := fo_dd DX5_append_0 52 rfl
theorem dX5_append_103 : decode cX5_append 103 = .ok (.if_icmp .eq 19, 3) := fo_dd DX5_append_0 53 rfl
theorem dX5_append_106 : decode cX5_append 106 = .ok (.aload_n 0, 1) := fo_dd DX5_append_0 54 rfl
theorem dX5_append_107 : decode cX5_append 107 = .ok (.getfield 19, 3) := fo_dd DX5_append_0 55 rfl
theorem dX5_append_110 : decode cX5_append 110 = .ok (.iload 5, 2) := fo_dd DX5_append_0 56 rfl
theorem dX5_append_112 : decode cX5_append 112 = .ok (.aaload, 1) := fo_dd DX5_append_0 57 rfl
theorem dX5_append_113 : decode cX5_append 113 = .ok (.getfield 63, 3) := fo_dd DX5_append_0 58 rfl
theorem dX5_append_116 : decode cX5_append 116 = .ok (.iload_n 1, 1) := fo_dd DX5_append_0 59 rfl
theorem dX5_append_117 : decode cX5_append 117 = .ok (.dup2, 1) := fo_dd DX5_append_0 60 rfl
theorem dX5_append_118 : decode cX5_append 118 = .ok (.iaload, 1) := fo_dd DX5_append_0 61 rfl
theorem dX5_append_119 : decode cX5_append 119 = .ok (.iconst 1, 1) := fo_dd DX5_append_0 62 rfl
theorem dX5_append_120 : decode cX5_append 120 = .ok (.iadd, 1) := fo_dd DX5_append_0 63 rfl
theorem DX5_append_1 : fo_dl cX5_append [(121, .iastore, 1), (122, .iload 4, 2), (124, .ireturn, 1)] := by decide +kernel
theorem dX5_append_121 : decode cX5_append 121 = .ok (.iastore, 1) := fo_dd DX5_append_1 0 rfl
theorem dX5_append_122 : decode cX5_append 122 = .ok (.iload 4, 2) := fo_dd DX5_append_1 1 rfl
theorem dX5_append_124 : decode cX5_append 124 = .ok (.ireturn, 1) := fo_dd DX5_append_1 2 rfl
theorem DX5_wipe_0 : fo_dl cX5_wipe [(0, .aload_n 0, 1), (1, .getfield 11, 3), (4, .iload_n 1, 1), (5, .aaload, 1), (6, .iconst 0, 1), (7, .putfield 67, 3), (10, .iconst 0, 1), (11, .istore_n 2, 1), (12, .iload_n 2, 1), (13, .aload_n 0, 1), (14, .getfield 36, 3), (17, .if_icmp .ge 19, 3), (20, .aload_n 0, 1), (21, .getfield 19, 3), (24, .iload_n 2, 1), (25, .aaload, 1), (26, .iload_n 1, 1), (27, .invokevirtual 70, 3), (30, .iinc 2 1, 3), (33, .goto (-21), 3), (36, .return_, 1)] := by decide +kernel
theorem dX5_wipe_0 : decode cX5_wipe 0 = .ok (.aload_n 0, 1) := fo_dd DX5_wipe_0 0 rfl
theorem dX5_wipe_1 : decode cX5_wipe 1 = .ok (.getfield 11, 3) := fo_dd DX5_wipe_0 1 rfl
theorem dX5_wipe_4 : decode cX5_wipe 4 = .ok (.iload_n 1, 1) := fo_dd DX5_wipe_0 2 rfl
theorem dX5_wipe_5 : decode cX5_wipe 5 = .ok (.aaload, 1) := fo_dd DX5_wipe_0 3 rfl
theorem dX5_wipe_6 : decode cX5_wipe 6 = .ok (.iconst 0, 1) := fo_dd DX5_wipe_0 4 rfl
theorem dX5_wipe_7 : decode cX5_wipe 7 = .ok (.putfield 67, 3) := fo_dd DX5_wipe_0 5 rfl
theorem dX5_wipe_10 : decode cX5_wipe 10 = .ok (.iconst 0, 1) := fo_dd DX5_wipe_0 6 rfl
theorem dX5_wipe_11 : decode cX5_wipe 11 = .ok (.istore_n 2, 1) := fo_dd DX5_wipe_0 7 rfl
theorem dX5_wipe_12 : decode cX5_wipe 12 = .ok (.iload_n 2, 1) := fo_dd DX5_wipe_0 8 rfl
theorem dX5_wipe_13 : decode cX5_wipe 13 = .ok (.aload_n 0, 1) := fo_dd DX5_wipe_0 9 rfl
theorem dX5_wipe_14 : decode cX5_wipe 14 = .ok (.getfield 36, 3) := fo_dd DX5_wipe_0 10 rfl
theorem dX5_wipe_17 : decode cX5_wipe 17 = .ok (.if_icmp .ge 19, 3) := fo_dd DX5_wipe_0 11 rfl
theorem dX5_wipe_20 : decode cX5_wipe 20 = .ok (.aload_n 0, 1) := fo_dd DX5_wipe_0 12 rfl
theorem dX5_wipe_21 : decode cX5_wipe 21 = .ok (.getfield 19, 3) := fo_dd DX5_wipe_0 13 rfl
theorem dX5_wipe_24 : decode cX5_wipe 24 = .ok (.iload_n 2, 1) := fo_dd DX5_wipe_0 14 rfl
theorem dX5_wipe_25 : decode cX5_wipe 25 = .ok (.aaload, 1) := fo_dd DX5_wipe_0 15 rfl
theorem dX5_wipe_26 : decode cX5_wipe 26 = .ok (.iload_n 1, 1) := fo_dd DX5_wipe_0 16 rfl
theorem dX5_wipe_27 : decode cX5_wipe 27 = .ok (.invokevirtual 70, 3) := fo_dd DX5_wipe_0 17 rfl
theorem dX5_wipe_30 : decode cX5_wipe 30 = .ok (.iinc 2 1, 3) := fo_dd DX5_wipe_0 18 rfl
theorem dX5_wipe_33 : decode cX5_wipe 33 = .ok (.goto (-21), 3) := fo_dd DX5_wipe_0 19 rfl
theorem dX5_wipe_36 : decode cX5_wipe 36 = .ok (.return_, 1) := fo_dd DX5_wipe_0 20 rfl
theorem DX5_countAllValues_0 : fo_dl cX5_countAllValues [(0, .iconst 0, 1), (1, .istore_n 1, 1), (2, .iconst 0, 1), (3, .istore_n 2, 1), (4, .iload_n 2, 1), (5, .iconst 4, 1), (6, .if_icmp .ge 21, 3), (9, .iload_n 1, 1), (10, .aload_n 0, 1), (11, .getfield 11, 3), (14, .iload_n 2, 1), (15, .aaload, 1), (16, .getfield 67, 3), (19, .iadd, 1), (20, .istore_n 1, 1), (21, .iinc 2 1, 3), (24, .goto (-20), 3), (27, .iload_n 1, 1), (28, .ireturn, 1)] := by decide +kernel
theorem dX5_countAllValues_0 : decode cX5_countAllValues 0 = .ok (.iconst 0, 1) := fo_dd DX5_countAllValues_0 0 rfl
theorem dX5_countAllValues_1 : decode cX5_countAllValues 1 = .ok (.istore_n 1, 1) := fo_dd DX5_countAllValues_0 1 rfl
theorem dX5_countAllValues_2 : decode cX5_countAllValues 2 = .ok (.iconst 0, 1) := fo_dd DX5_countAllValues_0 2 rfl
theorem dX5_countAllValues_3 : decode cX5_countAllValues 3 = .ok (.istore_n 2, 1) := fo_dd DX5_countAllValues_0 3 rfl
theorem dX5_countAllValues_4 : decode cX5_countAllValues 4 = .ok (.iload_n 2, 1) := fo_dd DX5_countAllValues_0 4 rfl
theorem dX5_countAllValues_5 : decode cX5_countAllValues 5 = .ok (.iconst 4, 1) := fo_dd DX5_countAllValues_0 5 rfl
theorem dX5_countAllValues_6 : decode cX5_countAllValues 6 = .ok (.if_icmp .ge 21, 3) := fo_dd DX5_countAllValues_0 6 rfl
theorem dX5_countAllValues_9 : decode cX5_countAllValues 9 = .ok (.iload_n 1, 1) := fo_dd DX5_countAllValues_0 7 rfl
theorem dX5_countAllValues_10 : decode cX5_countAllValues 10 = .ok (.aload_n 0, 1) := fo_dd DX5_countAllValues_0 8 rfl
theorem dX5_countAllValues_11 : decode cX5_countAllValues 11 = .ok (.getfield 11, 3) := fo_dd DX5_countAllValues_0 9 rfl
theorem dX5_countAllValues_14 : decode cX5_countAllValues 14 = .ok (.iload_n 2, 1) := fo_dd DX5_countAllValues_0 10 rfl
theorem dX5_countAllValues_15 : decode cX5_countAllValues 15 = .ok (.aaload, 1) := fo_dd DX5_countAllValues_0 11 rfl
theorem dX5_countAllValues_16 : decode cX5_countAllValues 16 = .ok (.getfield 67, 3) := fo_dd DX5_countAllValues_0 12 rfl
theorem dX5_countAllValues_19 : decode cX5_countAllValues 19 = .ok (.iadd, 1) := fo_dd DX5_countAllValues_0 13 rfl
theorem dX5_countAllValues_20 : decode cX5_countAllValues 20 = .ok (.istore_n 1, 1) := fo_dd DX5_countAllValues_0 14 rfl
theorem dX5_countAllValues_21 : decode cX5_countAllValues 21 = .ok (.iinc 2 1, 3) := fo_dd DX5_countAllValues_0 15 rfl
theorem dX5_countAllValues_24 : decode cX5_countAllValues 24 = .ok (.goto (-20), 3) := fo_dd DX5_countAllValues_0 16 rfl
theorem dX5_countAllValues_27 : decode cX5_countAllValues 27 = .ok (.iload_n 1, 1) := fo_dd DX5_countAllValues_0 17 rfl
theorem dX5_countAllValues_28 : decode cX5_countAllValues 28 = .ok (.ireturn, 1) := fo_dd DX5_countAllValues_0 18 rfl
theorem DX5_countAllStrays_0 : fo_dl cX5_countAllStrays [(0, .iconst 0, 1), (1, .istore_n 1, 1), (2, .iconst 0, 1), (3, .istore_n 2, 1), (4, .iload_n 2, 1), (5, .iconst 4, 1), (6, .if_icmp .ge 25, 3), (9, .iload_n 1, 1), (10, .aload_n 0, 1), (11, .getfield 11, 3), (14, .iload_n 2, 1), (15, .aaload, 1), (16, .aload_n 0, 1), (17, .getfield 23, 3), (20, .invokevirtual 74, 3), (23, .iadd, 1), (24, .istore_n 1, 1), (25, .iinc 2 1, 3), (28, .goto (-24), 3), (31, .iload_n 1, 1), (32, .ireturn, 1)] := by decide +kernel
theorem dX5_countAllStrays_0 : decode cX5_countAllStrays 0 = .ok (.iconst 0, 1) := fo_dd DX5_countAllStrays_0 0 rfl
theorem dX5_countAllStrays_1 : decode cX5_countAllStrays 1 = .ok (.istore_n 1, 1) := fo_dd DX5_countAllStrays_0 1 rfl
theorem dX5_countAllStrays_2 : decode cX5_countAllStrays 2 = .ok (.iconst 0, 1) := fo_dd DX5_countAllStrays_0 2 rfl
theorem dX5_countAllStrays_3 : decode cX5_countAllStrays 3 = .ok (.istore_n 2, 1) := fo_dd DX5_countAllStrays_0 3 rfl
theorem dX5_countAllStrays_4 : decode cX5_countAllStrays 4 = .ok (.iload_n 2, 1) := fo_dd DX5_countAllStrays_0 4 rfl
theorem dX5_countAllStrays_5 : decode cX5_countAllStrays 5 = .ok (.iconst 4, 1) := fo_dd DX5_countAllStrays_0 5 rfl
theorem dX5_countAllStrays_6 : decode cX5_countAllStrays 6 = .ok (.if_icmp .ge 25, 3) := fo_dd DX5_countAllStrays_0 6 rfl
theorem dX5_countAllStrays_9 : decode cX5_countAllStrays 9 = .ok (.iload_n 1, 1) := fo_dd DX5_countAllStrays_0 7 rfl
theorem dX5_countAllStrays_10 : decode cX5_countAllStrays 10 = .ok (.aload_n 0, 1) := fo_dd DX5_countAllStrays_0 8 rfl
theorem dX5_countAllStrays_11 : decode cX5_countAllStrays 11 = .ok (.getfield 11, 3) := fo_dd DX5_countAllStrays_0 9 rfl
theorem dX5_countAllStrays_14 : decode cX5_countAllStrays 14 = .ok (.iload_n 2, 1) := fo_dd DX5_countAllStrays_0 10 rfl
theorem dX5_countAllStrays_15 : decode cX5_countAllStrays 15 = .ok (.aaload, 1) := fo_dd DX5_countAllStrays_0 11 rfl
theorem dX5_countAllStrays_16 : decode cX5_countAllStrays 16 = .ok (.aload_n 0, 1) := fo_dd DX5_countAllStrays_0 12 rfl
theorem dX5_countAllStrays_17 : decode cX5_countAllStrays 17 = .ok (.getfield 23, 3) := fo_dd DX5_countAllStrays_0 13 rfl
theorem dX5_countAllStrays_20 : decode cX5_countAllStrays 20 = .ok (.invokevirtual 74, 3) := fo_dd DX5_countAllStrays_0 14 rfl
theorem dX5_countAllStrays_23 : decode cX5_countAllStrays 23 = .ok (.iadd, 1) := fo_dd DX5_countAllStrays_0 15 rfl
theorem dX5_countAllStrays_24 : decode cX5_countAllStrays 24 = .ok (.istore_n 1, 1) := fo_dd DX5_countAllStrays_0 16 rfl
theorem dX5_countAllStrays_25 : decode cX5_countAllStrays 25 = .ok (.iinc 2 1, 3) := fo_dd DX5_countAllStrays_0 17 rfl
theorem dX5_countAllStrays_28 : decode cX5_countAllStrays 28 = .ok (.goto (-24), 3) := fo_dd DX5_countAllStrays_0 18 rfl
theorem dX5_countAllStrays_31 : decode cX5_countAllStrays 31 = .ok (.iload_n 1, 1) := fo_dd DX5_countAllStrays_0 19 rfl
theorem dX5_countAllStrays_32 : decode cX5_countAllStrays 32 = .ok (.ireturn, 1) := fo_dd DX5_countAllStrays_0 20 rfl
theorem DX5_prophetAtRank_0 : fo_dl cX5_prophetAtRank [(0, .iconst 0, 1), (1, .istore_n 2, 1), (2, .iload_n 2, 1), (3, .aload_n 0, 1), (4, .getfield 36, 3), (7, .if_icmp .ge 20, 3), (10, .aload_n 0, 1), (11, .iload_n 2, 1), (12, .invokevirtual 77, 3), (15, .iload_n 1, 1), (16, .if_icmp .ne 5, 3), (19, .iload_n 2, 1), (20, .ireturn, 1), (21, .iinc 2 1, 3), (24, .goto (-22), 3), (27, .iconst (-1), 1), (28, .ireturn, 1)] := by decide +kernel
theorem dX5_prophetAtRank_0 : decode cX5_prophetAtRank 0 = .ok (.iconst 0, 1) := fo_dd DX5_prophetAtRank_0 0 rfl
theorem dX5_prophetAtRank_1 : decode cX5_prophetAtRank 1 = .ok (.istore_n 2, 1) := fo_dd DX5_prophetAtRank_0 1 rfl
theorem dX5_prophetAtRank_2 : decode cX5_prophetAtRank 2 = .ok (.iload_n 2, 1) := fo_dd DX5_prophetAtRank_0 2 rfl
theorem dX5_prophetAtRank_3 : decode cX5_prophetAtRank 3 = .ok (.aload_n 0, 1) := fo_dd DX5_prophetAtRank_0 3 rfl
theorem dX5_prophetAtRank_4 : decode cX5_prophetAtRank 4 = .ok (.getfield 36, 3) := fo_dd DX5_prophetAtRank_0 4 rfl
theorem dX5_prophetAtRank_7 : decode cX5_prophetAtRank 7 = .ok (.if_icmp .ge 20, 3) := fo_dd DX5_prophetAtRank_0 5 rfl
theorem dX5_prophetAtRank_10 : decode cX5_prophetAtRank 10 = .ok (.aload_n 0, 1) := fo_dd DX5_prophetAtRank_0 6 rfl
theorem dX5_prophetAtRank_11 : decode cX5_prophetAtRank 11 = .ok (.iload_n 2, 1) := fo_dd DX5_prophetAtRank_0 7 rfl
theorem dX5_prophetAtRank_12 : decode cX5_prophetAtRank 12 = .ok (.invokevirtual 77, 3) := fo_dd DX5_prophetAtRank_0 8 rfl
theorem dX5_prophetAtRank_15 : decode cX5_prophetAtRank 15 = .ok (.iload_n 1, 1) := fo_dd DX5_prophetAtRank_0 9 rfl
theorem dX5_prophetAtRank_16 : decode cX5_prophetAtRank 16 = .ok (.if_icmp .ne 5, 3) := fo_dd DX5_prophetAtRank_0 10 rfl
theorem dX5_prophetAtRank_19 : decode cX5_prophetAtRank 19 = .ok (.iload_n 2, 1) := fo_dd DX5_prophetAtRank_0 11 rfl
theorem dX5_prophetAtRank_20 : decode cX5_prophetAtRank 20 = .ok (.ireturn, 1) := fo_dd DX5_prophetAtRank_0 12 rfl
theorem dX5_prophetAtRank_21 : decode cX5_prophetAtRank 21 = .ok (.iinc 2 1, 3) := fo_dd DX5_prophetAtRank_0 13 rfl
theorem dX5_prophetAtRank_24 : decode cX5_prophetAtRank 24 = .ok (.goto (-22), 3) := fo_dd DX5_prophetAtRank_0 14 rfl
theorem dX5_prophetAtRank_27 : decode cX5_prophetAtRank 27 = .ok (.iconst (-1), 1) := fo_dd DX5_prophetAtRank_0 15 rfl
theorem dX5_prophetAtRank_28 : decode cX5_prophetAtRank 28 = .ok (.ireturn, 1) := fo_dd DX5_prophetAtRank_0 16 rfl
theorem DX5_rankOf_0 : fo_dl cX5_rankOf [(0, .aload_n 0, 1), (1, .getfield 19, 3), (4, .iload_n 1, 1), (5, .aaload, 1), (6, .invokevirtual 80, 3), (9, .istore_n 2, 1), (10, .iconst 0, 1), (11, .istore_n 3, 1), (12, .iconst 0, 1), (13, .istore 4, 2), (15, .iload 4, 2), (17, .aload_n 0, 1), (18, .getfield 36, 3), (21, .if_icmp .ge 42, 3), (24, .aload_n 0, 1), (25, .getfield 19, 3), (28, .iload 4, 2), (30, .aaload, 1), (31, .invokevirtual 80, 3), (34, .istore 5, 2), (36, .iload 5, 2), (38, .iload_n 2, 1), (39, .if_icmp .gt 15, 3), (42, .iload 5, 2), (44, .iload_n 2, 1), (45, .if_icmp .ne 12, 3), (48, .iload 4, 2), (50, .iload_n 1, 1), (51, .if_icmp .ge 6, 3), (54, .iinc 3 1, 3), (57, .iinc 4 1, 3), (60, .goto (-45), 3), (63, .iload_n 3, 1), (64, .ireturn, 1)] := by decide +kernel
theorem dX5_rankOf_0 : decode cX5_rankOf 0 = .ok (.aload_n 0, 1) := fo_dd DX5_rankOf_0 0 rfl
theorem dX5_rankOf_1 : decode cX5_rankOf 1 = .ok (.getfield 19, 3) := fo_dd DX5_rankOf_0 1 rfl
theorem dX5_rankOf_4 : decode cX5_rankOf 4 = .ok (.iload_n 1, 1) := fo_dd DX5_rankOf_0 2 rfl
theorem dX5_rankOf_5 : decode cX5_rankOf 5 = .ok (.aaload, 1) := fo_dd DX5_rankOf_0 3 rfl
theorem dX5_rankOf_6 : decode cX5_rankOf 6 = .ok (.invokevirtual 80, 3) := fo_dd DX5_rankOf_0 4 rfl
theorem dX5_rankOf_9 : decode cX5_rankOf 9 = .ok (.istore_n 2, 1) := fo_dd DX5_rankOf_0 5 rfl
theorem dX5_rankOf_10 : decode cX5_rankOf 10 = .ok (.iconst 0, 1) := fo_dd DX5_rankOf_0 6 rfl
theorem dX5_rankOf_11 : decode cX5_rankOf 11 = .ok (.istore_n 3, 1) := fo_dd DX5_rankOf_0 7 rfl
theorem dX5_rankOf_12 : decode cX5_rankOf 12 = .ok (.iconst 0, 1) := fo_dd DX5_rankOf_0 8 rfl
theorem dX5_rankOf_13 : decode cX5_rankOf 13 = .ok (.istore 4, 2) := fo_dd DX5_rankOf_0 9 rfl
theorem dX5_rankOf_15 : decode cX5_rankOf 15 = .ok (.iload 4, 2) := fo_dd DX5_rankOf_0 10 rfl
theorem dX5_rankOf_17 : decode cX5_rankOf 17 = .ok (.aload_n 0, 1) := fo_dd DX5_rankOf_0 11 rfl
theorem dX5_rankOf_18 : decode cX5_rankOf 18 = .ok (.getfield 36, 3) := fo_dd DX5_rankOf_0 12 rfl
theorem dX5_rankOf_21 : decode cX5_rankOf 21 = .ok (.if_icmp .ge 42, 3) := fo_dd DX5_rankOf_0 13 rfl
theorem dX5_rankOf_24 : decode cX5_rankOf 24 = .ok (.aload_n 0, 1) := fo_dd DX5_rankOf_0 14 rfl
theorem dX5_rankOf_25 : decode cX5_rankOf 25 = .ok (.getfield 19, 3) := fo_dd DX5_rankOf_0 15 rfl
theorem dX5_rankOf_28 : decode cX5_rankOf 28 = .ok (.iload 4, 2) := fo_dd DX5_rankOf_0 16 rfl
theorem dX5_rankOf_30 : decode cX5_rankOf 30 = .ok (.aaload, 1) := fo_dd DX5_rankOf_0 17 rfl
theorem dX5_rankOf_31 : decode cX5_rankOf 31 = .ok (.invokevirtual 80, 3) := fo_dd DX5_rankOf_0 18 rfl
theorem dX5_rankOf_34 : decode cX5_rankOf 34 = .ok (.istore 5, 2) := fo_dd DX5_rankOf_0 19 rfl
theorem dX5_rankOf_36 : decode cX5_rankOf 36 = .ok (.iload 5, 2) := fo_dd DX5_rankOf_0 20 rfl
theorem dX5_rankOf_38 : decode cX5_rankOf 38 = .ok (.iload_n 2, 1) := fo_dd DX5_rankOf_0 21 rfl
theorem dX5_rankOf_39 : decode cX5_rankOf 39 = .ok (.if_icmp .gt 15, 3) := fo_dd DX5_rankOf_0 22 rfl
theorem dX5_rankOf_42 : decode cX5_rankOf 42 = .ok (.iload 5, 2) := fo_dd DX5_rankOf_0 23 rfl
theorem dX5_rankOf_44 : decode cX5_rankOf 44 = .ok (.iload_n 2, 1) := fo_dd DX5_rankOf_0 24 rfl
theorem dX5_rankOf_45 : decode cX5_rankOf 45 = .ok (.if_icmp .ne 12, 3) := fo_dd DX5_rankOf_0 25 rfl
theorem dX5_rankOf_48 : decode cX5_rankOf 48 = .ok (.iload 4, 2) := fo_dd DX5_rankOf_0 26 rfl
theorem dX5_rankOf_50 : decode cX5_rankOf 50 = .ok (.iload_n 1, 1) := fo_dd DX5_rankOf_0 27 rfl
theorem dX5_rankOf_51 : decode cX5_rankOf 51 = .ok (.if_icmp .ge 6, 3) := fo_dd DX5_rankOf_0 28 rfl
theorem dX5_rankOf_54 : decode cX5_rankOf 54 = .ok (.iinc 3 1, 3) := fo_dd DX5_rankOf_0 29 rfl
theorem dX5_rankOf_57 : decode cX5_rankOf 57 = .ok (.iinc 4 1, 3) := fo_dd DX5_rankOf_0 30 rfl
theorem dX5_rankOf_60 : decode cX5_rankOf 60 = .ok (.goto (-45), 3) := fo_dd DX5_rankOf_0 31 rfl
theorem dX5_rankOf_63 : decode cX5_rankOf 63 = .ok (.iload_n 3, 1) := fo_dd DX5_rankOf_0 32 rfl
theorem dX5_rankOf_64 : decode cX5_rankOf 64 = .ok (.ireturn, 1) := fo_dd DX5_rankOf_0 33 rfl
theorem DX5_prophetWithLeastMeanError_0 : fo_dl cX5_prophetWithLeastMeanError [(0, .iconst (-1), 1), (1, .istore_n 1, 1), (2, .dconst 0, 1), (3, .dstore_n 2, 1), (4, .iconst 0, 1), (5, .istore 4, 2), (7, .iload 4, 2), (9, .aload_n 0, 1), (10, .getfield 36, 3), (13, .if_icmp .ge 63, 3), (16, .aload_n 0, 1), (17, .getfield 19, 3), (20, .iload 4, 2), (22, .aaload, 1), (23, .invokevirtual 83, 3), (26, .istore 5, 2), (28, .iload 5, 2), (30, .ifCond .ne 6, 3), (33, .goto 37, 3), (36, .aload_n 0, 1), (37, .getfield 19, 3), (40, .iload 4, 2), (42, .aaload, 1), (43, .invokevirtual 86, 3), (46, .iload 5, 2), (48, .i2d, 1), (49, .ddiv, 1), (50, .dstore 6, 2), (52, .iload_n 1, 1), (53, .iconst (-1), 1), (54, .if_icmp .eq 10, 3), (57, .dload 6, 2), (59, .dload_n 2, 1), (60, .dcmp .g, 1), (61, .ifCond .ge 9, 3), (64, .iload 4, 2), (66, .istore_n 1, 1), (67, .dload 6, 2), (69, .dstore_n 2, 1), (70, .iinc 4 1, 3), (73, .goto (-66), 3), (76, .iload_n 1, 1), (77, .ireturn, 1)] := by decide +kernel
theorem dX5_prophetWithLeastMeanError_0 : decode cX5_prophetWithLeastMeanError 0 = .ok (.iconst (-1), 1) := fo_dd DX5_prophetWithLeastMeanError_0 0 rfl
theorem dX5_prophetWithLeastMeanError_1 : decode cX5_prophetWithLeastMeanError 1 = .ok (.istore_n 1, 1) := fo_dd DX5_prophetWithLeastMeanError_0 1 rfl
theorem dX5_prophetWithLeastMeanError_2 : decode cX5_prophetWithLeastMeanError 2 = .ok (.dconst 0, 1) := fo_dd DX5_prophetWithLeastMeanError_0 2 rfl
theorem dX5_prophetWithLeastMeanError_3 : decode cX5_prophetWithLeastMeanError 3 = .ok (.dstore_n 2, 1) := fo_dd DX5_prophetWithLeastMeanError_0 3 rfl
theorem dX5_prophetWithLeastMeanError_4 : decode cX5_prophetWithLeastMeanError 4 = .ok (.iconst 0, 1) := fo_dd DX5_prophetWithLeastMeanError_0 4 rfl
theorem dX5_prophetWithLeastMeanError_5 : decode cX5_prophetWithLeastMeanError 5 = .ok (.istore 4, 2) := fo_dd DX5_prophetWithLeastMeanError_0 5 rfl
theorem dX5_prophetWithLeastMeanError_7 : decode cX5_prophetWithLeastMeanError 7 = .ok (.iload 4, 2) := fo_dd DX5_prophetWithLeastMeanError_0 6 rfl
theorem dX5_prophetWithLeastMeanError_9 : decode cX5_prophetWithLeastMeanError 9 = .ok (.aload_n 0, 1) := fo_dd DX5_prophetWithLeastMeanError_0 7 rfl
theorem dX5_prophetWithLeastMeanError_10 : decode cX5_prophetWithLeastMeanError 10 = .ok (.getfield 36, 3) := fo_dd DX5_prophetWithLeastMeanError_0 8 rfl
theorem dX5_prophetWithLeastMeanError_13 : decode cX5_prophetWithLeastMeanError 13 = .ok (.if_icmp .ge 63, 3) := fo_dd DX5_prophetWithLeastMeanError_0 9 rfl
theorem dX5_prophetWithLeastMeanError_16 : decode cX5_prophetWithLeastMeanError 16 = .ok (.aload_n 0, 1) := fo_dd DX5_prophetWithLeastMeanError_0 10 rfl
theorem dX5_prophetWithLeastMeanError_17 : decode cX5_prophetWithLeastMeanError 17 = .ok (.getfield 19, 3) := fo_dd DX5_prophetWithLeastMeanError_0 11 rfl
theorem dX5_prophetWithLeastMeanError_20 : decode cX5_prophetWithLeastMeanError 20 = .ok (.iload 4, 2) := fo_dd DX5_prophetWithLeastMeanError_0 12 rfl
theorem dX5_prophetWithLeastMeanError_22 : decode cX5_prophetWithLeastMeanError 22 = .ok (.aaload, 1) := fo_dd DX5_prophetWithLeastMeanError_0 13 rfl
theorem dX5_prophetWithLeastMeanError_23 : decode cX5_prophetWithLeastMeanError 23 = .ok (.invokevirtual 83, 3) := fo_dd DX5_prophetWithLeastMeanError_0 14 rfl
theorem dX5_prophetWithLeastMeanError_26 : decode cX5_prophetWithLeastMeanError 26 = .ok (.istore 5, 2) := fo_dd DX5_prophetWithLeastMeanError_0 15 rfl
theorem dX5_prophetWithLeastMeanError_28 : decode cX5_prophetWithLeastMeanError 28 = .ok (.iload 5, 2) := fo_dd DX5_prophetWithLeastMeanError_0 16 rfl
theorem dX5_prophetWithLeastMeanError_30 : decode cX5_prophetWithLeastMeanError 30 = .ok (.ifCond .ne 6, 3) := fo_dd DX5_prophetWithLeastMeanError_0 17 rfl
theorem dX5_prophetWithLeastMeanError_33 : decode cX5_prophetWithLeastMeanError 33 = .ok (.goto 37, 3) := fo_dd DX5_prophetWithLeastMeanError_0 18 rfl
theorem dX5_prophetWithLeastMeanError_36 : decode cX5_prophetWithLeastMeanError 36 = .ok (.aload_n 0, 1) := fo_dd DX5_prophetWithLeastMeanError_0 19 rfl
theorem dX5_prophetWithLeastMeanError_37 : decode cX5_prophetWithLeastMeanError 37 = .ok (.getfield 19, 3) := fo_dd DX5_prophetWithLeastMeanError_0 20 rfl
theorem dX5_prophetWithLeastMeanError_40 : decode cX5_prophetWithLeastMeanError 40 = .ok (.iload 4, 2) := fo_dd DX5_prophetWithLeastMeanError_0 21 rfl
theorem dX5_prophetWithLeastMeanError_42 : decode cX5_prophetWithLeastMeanError 42 = .ok (.aaload, 1) := fo_dd DX5_prophetWithLeastMeanError_0 22 rfl
theorem dX5_prophetWithLeastMeanError_43 : decode cX5_prophetWithLeastMeanError 43 = .ok (.invokevirtual 86, 3) := fo_dd DX5_prophetWithLeastMeanError_0 23 rfl
theorem dX5_prophetWithLeastMeanError_46 : decode cX5_prophetWithLeastMeanError 46 = .ok (.iload 5, 2) := fo_dd DX5_prophetWithLeastMeanError_0 24 rfl
theorem dX5_prophetWithLeastMeanError_48 : decode cX5_prophetWithLeastMeanError 48 = .ok (.i2d, 1) := fo_dd DX5_prophetWithLeastMeanError_0 25 rfl
theorem dX5_prophetWithLeastMeanError_49 : decode cX5_prophetWithLeastMeanError 49 = .ok (.ddiv, 1) := fo_dd DX5_prophetWithLeastMeanError_0 26 rfl
theorem dX5_prophetWithLeastMeanError_50 : decode cX5_prophetWithLeastMeanError 50 = .ok (.dstore 6, 2) := fo_dd DX5_prophetWithLeastMeanError_0 27 rfl
theorem dX5_prophetWithLeastMeanError_52 : decode cX5_prophetWithLeastMeanError 52 = .ok (.iload_n 1, 1) := fo_dd DX5_prophetWithLeastMeanError_0 28 rfl
theorem dX5_prophetWithLeastMeanError_53 : decode cX5_prophetWithLeastMeanError 53 = .ok (.iconst (-1), 1) := fo_dd DX5_prophetWithLeastMeanError_0 29 rfl
theorem dX5_prophetWithLeastMeanError_54 : decode cX5_prophetWithLeastMeanError 54 = .ok (.if_icmp .eq 10, 3) := fo_dd DX5_prophetWithLeastMeanError_0 30 rfl
theorem dX5_prophetWithLeastMeanError_57 : decode cX5_prophetWithLeastMeanError 57 = .ok (.dload 6, 2) := fo_dd DX5_prophetWithLeastMeanError_0 31 rfl
theorem dX5_prophetWithLeastMeanError_59 : decode cX5_prophetWithLeastMeanError 59 = .ok (.dload_n 2, 1) := fo_dd DX5_prophetWithLeastMeanError_0 32 rfl
theorem dX5_prophetWithLeastMeanError_60 : decode cX5_prophetWithLeastMeanError 60 = .ok (.dcmp .g, 1) := fo_dd DX5_prophetWithLeastMeanError_0 33 rfl
theorem dX5_prophetWithLeastMeanError_61 : decode cX5_prophetWithLeastMeanError 61 = .ok (.ifCond .ge 9, 3) := fo_dd DX5_prophetWithLeastMeanError_0 34 rfl
theorem dX5_prophetWithLeastMeanError_64 : decode cX5_prophetWithLeastMeanError 64 = .ok (.iload 4, 2) := fo_dd DX5_prophetWithLeastMeanError_0 35 rfl
theorem dX5_prophetWithLeastMeanError_66 : decode cX5_prophetWithLeastMeanError 66 = .ok (.istore_n 1, 1) := fo_dd DX5_prophetWithLeastMeanError_0 36 rfl
theorem dX5_prophetWithLeastMeanError_67 : decode cX5_prophetWithLeastMeanError 67 = .ok (.dload 6, 2) := fo_dd DX5_prophetWithLeastMeanError_0 37 rfl
theorem dX5_prophetWithLeastMeanError_69 : decode cX5_prophetWithLeastMeanError 69 = .ok (.dstore_n 2, 1) := fo_dd DX5_prophetWithLeastMeanError_0 38 rfl
theorem dX5_prophetWithLeastMeanError_70 : decode cX5_prophetWithLeastMeanError 70 = .ok (.iinc 4 1, 3) := fo_dd DX5_prophetWithLeastMeanError_0 39 rfl
theorem dX5_prophetWithLeastMeanError_73 : decode cX5_prophetWithLeastMeanError 73 = .ok (.goto (-66), 3) := fo_dd DX5_prophetWithLeastMeanError_0 40 rfl
theorem dX5_prophetWithLeastMeanError_76 : decode cX5_prophetWithLeastMeanError 76 = .ok (.iload_n 1, 1) := fo_dd DX5_prophetWithLeastMeanError_0 41 rfl
theorem dX5_prophetWithLeastMeanError_77 : decode cX5_prophetWithLeastMeanError 77 = .ok (.ireturn, 1) := fo_dd DX5_prophetWithLeastMeanError_0 42 rfl
theorem DX5_isSound_0 : fo_dl cX5_isSound [(0, .aload_n 0, 1), (1, .getfield 23, 3), (4, .invokestatic 90, 3), (7, .ifCond .eq 19, 3), (10, .aload_n 0, 1), (11, .getfield 36, 3), (14, .ifCond .lt 12, 3), (17, .aload_n 0, 1), (18, .getfield 36, 3), (21, .bipush 8, 2), (23, .if_icmp .le 5, 3), (26, .iconst 0, 1), (27, .ireturn, 1), (28, .iconst 0, 1), (29, .istore_n 1, 1), (30, .iload_n 1, 1), (31, .aload_n 0, 1), (32, .getfield 36, 3), (35, .if_icmp .ge 41, 3), (38, .aload_n 0, 1), (39, .getfield 19, 3), (42, .iload_n 1, 1), (43, .aaload, 1), (44, .getfield 93, 3), (47, .invokestatic 97, 3), (50, .ifCond .eq 18, 3), (53, .aload_n 0, 1), (54, .getfield 19, 3), (57, .iload_n 1, 1), (58, .aaload, 1), (59, .getfield 101, 3), (62, .invokestatic 90, 3), (65, .ifCond .ne 5, 3), (68, .iconst 0, 1), (69, .ireturn, 1), (70, .iinc 1 1, 3), (73, .goto (-43), 3), (76, .iconst 0, 1), (77, .istore_n 1, 1), (78, .iload_n 1, 1), (79, .iconst 4, 1), (80, .if_icmp .ge 31, 3), (83, .aload_n 0, 1), (84, .getfield 11, 3), (87, .iload_n 1, 1), (88, .aaload, 1), (89, .invokevirtual 104, 3), (92, .ifCond .eq 11, 3), (95, .aload_n 0, 1), (96, .iload_n 1, 1), (97, .invokevirtual 108, 3), (100, .ifCond .ne 5, 3), (103, .iconst 0, 1), (104, .ireturn, 1), (105, .iinc 1 1, 3), (108, .goto (-30), 3), (111, .iconst 1, 1), (112, .ireturn, 1)] := by decide +kernel
theorem dX5_isSound_0 : decode cX5_isSound 0 = .ok (.aload_n 0, 1) := fo_dd DX5_isSound_0 0 rfl
theorem dX5_isSound_1 : decode cX5_isSound 1 = .ok (.getfield 23, 3) := fo_dd DX5_isSound_0 1 rfl
theorem dX5_isSound_4 : decode cX5_isSound 4 = .ok (.invokestatic 90, 3) := fo_dd DX5_isSound_0 2 rfl
theorem dX5_isSound_7 : decode cX5_isSound 7 = .ok (.ifCond .eq 19, 3) := fo_dd DX5_isSound_0 3 rfl
theorem dX5_isSound_10 : decode cX5_isSound 10 = .ok (.aload_n 0, 1) := fo_dd DX5_isSound_0 4 rfl
theorem dX5_isSound_11 : decode cX5_isSound 11 = .ok (.getfield 36, 3) := fo_dd DX5_isSound_0 5 rfl
theorem dX5_isSound_14 : decode cX5_isSound 14 = .ok (.ifCond .lt 12, 3) := fo_dd DX5_isSound_0 6 rfl
theorem dX5_isSound_17 : decode cX5_isSound 17 = .ok (.aload_n 0, 1) := fo_dd DX5_isSound_0 7 rfl
theorem dX5_isSound_18 : decode cX5_isSound 18 = .ok (.getfield 36, 3) := fo_dd DX5_isSound_0 8 rfl
theorem dX5_isSound_21 : decode cX5_isSound 21 = .ok (.bipush 8, 2) := fo_dd DX5_isSound_0 9 rfl
theorem dX5_isSound_23 : decode cX5_isSound 23 = .ok (.if_icmp .le 5, 3) := fo_dd DX5_isSound_0 10 rfl
theorem dX5_isSound_26 : decode cX5_isSound 26 = .ok (.iconst 0, 1) := fo_dd DX5_isSound_0 11 rfl
theorem dX5_isSound_27 : decode cX5_isSound 27 = .ok (.ireturn, 1) := fo_dd DX5_isSound_0 12 rfl
theorem dX5_isSound_28 : decode cX5_isSound 28 = .ok (.iconst 0, 1) := fo_dd DX5_isSound_0 13 rfl
theorem dX5_isSound_29 : decode cX5_isSound 29 = .ok (.istore_n 1, 1) := fo_dd DX5_isSound_0 14 rfl
theorem dX5_isSound_30 : decode cX5_isSound 30 = .ok (.iload_n 1, 1) := fo_dd DX5_isSound_0 15 rfl
theorem dX5_isSound_31 : decode cX5_isSound 31 = .ok (.aload_n 0, 1) := fo_dd DX5_isSound_0 16 rfl
theorem dX5_isSound_32 : decode cX5_isSound 32 = .ok (.getfield 36, 3) := fo_dd DX5_isSound_0 17 rfl
theorem dX5_isSound_35 : decode cX5_isSound 35 = .ok (.if_icmp .ge 41, 3) := fo_dd DX5_isSound_0 18 rfl
theorem dX5_isSound_38 : decode cX5_isSound 38 = .ok (.aload_n 0, 1) := fo_dd DX5_isSound_0 19 rfl
theorem dX5_isSound_39 : decode cX5_isSound 39 = .ok (.getfield 19, 3) := fo_dd DX5_isSound_0 20 rfl
theorem dX5_isSound_42 : decode cX5_isSound 42 = .ok (.iload_n 1, 1) := fo_dd DX5_isSound_0 21 rfl
theorem dX5_isSound_43 : decode cX5_isSound 43 = .ok (.aaload, 1) := fo_dd DX5_isSound_0 22 rfl
theorem dX5_isSound_44 : decode cX5_isSound 44 = .ok (.getfield 93, 3) := fo_dd DX5_isSound_0 23 rfl
theorem dX5_isSound_47 : decode cX5_isSound 47 = .ok (.invokestatic 97, 3) := fo_dd DX5_isSound_0 24 rfl
theorem dX5_isSound_50 : decode cX5_isSound 50 = .ok (.ifCond .eq 18, 3) := fo_dd DX5_isSound_0 25 rfl
theorem dX5_isSound_53 : decode cX5_isSound 53 = .ok (.aload_n 0, 1) := fo_dd DX5_isSound_0 26 rfl
theorem dX5_isSound_54 : decode cX5_isSound 54 = .ok (.getfield 19, 3) := fo_dd DX5_isSound_0 27 rfl
theorem dX5_isSound_57 : decode cX5_isSound 57 = .ok (.iload_n 1, 1) := fo_dd DX5_isSound_0 28 rfl
theorem dX5_isSound_58 : decode cX5_isSound 58 = .ok (.aaload, 1) := fo_dd DX5_isSound_0 29 rfl
theorem dX5_isSound_59 : decode cX5_isSound 59 = .ok (.getfield 101, 3) := fo_dd DX5_isSound_0 30 rfl
theorem dX5_isSound_62 : decode cX5_isSound 62 = .ok (.invokestatic 90, 3) := fo_dd DX5_isSound_0 31 rfl
theorem dX5_isSound_65 : decode cX5_isSound 65 = .ok (.ifCond .ne 5, 3) := fo_dd DX5_isSound_0 32 rfl
theorem dX5_isSound_68 : decode cX5_isSound 68 = .ok (.iconst 0, 1) := fo_dd DX5_isSound_0 33 rfl
theorem dX5_isSound_69 : decode cX5_isSound 69 = .ok (.ireturn, 1) := fo_dd DX5_isSound_0 34 rfl
theorem dX5_isSound_70 : decode cX5_isSound 70 = .ok (.iinc 1 1, 3) := fo_dd DX5_isSound_0 35 rfl
theorem dX5_isSound_73 : decode cX5_isSound 73 = .ok (.goto (-43), 3) := fo_dd DX5_isSound_0 36 rfl
theorem dX5_isSound_76 : decode cX5_isSound 76 = .ok (.iconst 0, 1) := fo_dd DX5_isSound_0 37 rfl
theorem dX5_isSound_77 : decode cX5_isSound 77 = .ok (.istore_n 1, 1) := fo_dd DX5_isSound_0 38 rfl
theorem dX5_isSound_78 : decode cX5_isSound 78 = .ok (.iload_n 1, 1) := fo_dd DX5_isSound_0 39 rfl
theorem dX5_isSound_79 : decode cX5_isSound 79 = .ok (.iconst 4, 1) := fo_dd DX5_isSound_0 40 rfl
theorem dX5_isSound_80 : decode cX5_isSound 80 = .ok (.if_icmp .ge 31, 3) := fo_dd DX5_isSound_0 41 rfl
theorem dX5_isSound_83 : decode cX5_isSound 83 = .ok (.aload_n 0, 1) := fo_dd DX5_isSound_0 42 rfl
theorem dX5_isSound_84 : decode cX5_isSound 84 = .ok (.getfield 11, 3) := fo_dd DX5_isSound_0 43 rfl
theorem dX5_isSound_87 : decode cX5_isSound 87 = .ok (.iload_n 1, 1) := fo_dd DX5_isSound_0 44 rfl
theorem dX5_isSound_88 : decode cX5_isSound 88 = .ok (.aaload, 1) := fo_dd DX5_isSound_0 45 rfl
theorem dX5_isSound_89 : decode cX5_isSound 89 = .ok (.invokevirtual 104, 3) := fo_dd DX5_isSound_0 46 rfl
theorem dX5_isSound_92 : decode cX5_isSound 92 = .ok (.ifCond .eq 11, 3) := fo_dd DX5_isSound_0 47 rfl
theorem dX5_isSound_95 : decode cX5_isSound 95 = .ok (.aload_n 0, 1) := fo_dd DX5_isSound_0 48 rfl
theorem dX5_isSound_96 : decode cX5_isSound 96 = .ok (.iload_n 1, 1) := fo_dd DX5_isSound_0 49 rfl
theorem dX5_isSound_97 : decode cX5_isSound 97 = .ok (.invokevirtual 108, 3) := fo_dd DX5_isSound_0 50 rfl
theorem dX5_isSound_100 : decode cX5_isSound 100 = .ok (.ifCond .ne 5, 3) := fo_dd DX5_isSound_0 51 rfl
theorem dX5_isSound_103 : decode cX5_isSound 103 = .ok (.iconst 0, 1) := fo_dd DX5_isSound_0 52 rfl
theorem dX5_isSound_104 : decode cX5_isSound 104 = .ok (.ireturn, 1) := fo_dd DX5_isSound_0 53 rfl
theorem dX5_isSound_105 : decode cX5_isSound 105 = .ok (.iinc 1 1, 3) := fo_dd DX5_isSound_0 54 rfl
theorem dX5_isSound_108 : decode cX5_isSound 108 = .ok (.goto (-30), 3) := fo_dd DX5_isSound_0 55 rfl
theorem dX5_isSound_111 : decode cX5_isSound 111 = .ok (.iconst 1, 1) := fo_dd DX5_isSound_0 56 rfl
theorem dX5_isSound_112 : decode cX5_isSound 112 = .ok (.ireturn, 1) := fo_dd DX5_isSound_0 57 rfl
theorem DX5_areScoresSound_0 : fo_dl cX5_areScoresSound [(0, .iconst 0, 1), (1, .istore_n 2, 1), (2, .iconst 0, 1), (3, .istore_n 3, 1), (4, .iconst 0, 1), (5, .istore 4, 2), (7, .iload 4, 2), (9, .aload_n 0, 1), (10, .getfield 36, 3), (13, .if_icmp .ge 94, 3), (16, .aload_n 0, 1), (17, .getfield 19, 3), (20, .iload 4, 2), (22, .aaload, 1), (23, .astore 5, 2), (25, .iconst 0, 1), (26, .aload_n 0, 1), (27, .getfield 11, 3), (30, .iload_n 1, 1), (31, .aaload, 1), (32, .getfield 67, 3), (35, .aload 5, 2), (37, .invokevirtual 111, 3), (40, .isub, 1), (41, .invokestatic 114, 3), (44, .istore 6, 2), (46, .aload 5, 2), (48, .getfield 120, 3), (51, .iload_n 1, 1), (52, .iaload, 1), (53, .iload 6, 2), (55, .if_icmp .eq 5, 3), (58, .iconst 0, 1), (59, .ireturn, 1), (60, .aload 5, 2), (62, .getfield 123, 3), (65, .iload_n 1, 1), (66, .daload, 1), (67, .aload 5, 2), (69, .aload_n 0, 1), (70, .getfield 11, 3), (73, .iload_n 1, 1), (74, .aaload, 1), (75, .invokevirtual 127, 3), (78, .dcmp .l, 1), (79, .ifCond .eq 5, 3), (82, .iconst 0, 1), (83, .ireturn, 1), (84, .iload_n 2, 1), (85, .iload 6, 2), (87, .invokestatic 114, 3), (90, .istore_n 2, 1), (91, .iload_n 3, 1), (92, .aload 5, 2), (94, .getfield 63, 3), (97, .iload_n 1, 1), (98, .iaload, 1), (99, .iadd, 1), (100, .istore_n 3, 1), (101, .iinc 4 1, 3), (104, .goto (-97), 3), (107, .iload_n 3, 1), (108, .iload_n 2, 1), (109, .if_icmp .ne 7, 3)] := by decide +kernel
theorem dX5_areScoresSound_0 : decode cX5_areScoresSound 0 = .ok (.iconst 0, 1) := fo_dd DX5_areScoresSound_0 0 rfl
theorem dX5_areScoresSound_1 : decode cX5_areScoresSound 1 = .ok (.istore_n 2, 1) := fo_dd DX5_areScoresSound_0 1 rfl
theorem dX5_areScoresSound_2 : decode cX5_areScoresSound 2 = .ok (.iconst 0, 1) := fo_dd DX5_areScoresSound_0 2 rfl
theorem dX5_areScoresSound_3 : decode cX5_areScoresSound 3 = .ok (.istore_n 3, 1) := fo_dd DX5_areScoresSound_0 3 rfl
theorem dX5_areScoresSound_4 : decode cX5_areScoresSound 4 = .ok (.iconst 0, 1) := fo_dd DX5_areScoresSound_0 4 rfl
theorem dX5_areScoresSound_5 : decode cX5_areScoresSound 5 = .ok (.istore 4, 2) := fo_dd DX5_areScoresSound_0 5 rfl
theorem dX5_areScoresSound_7 : decode cX5_areScoresSound 7 = .ok (.iload 4, 2) := fo_dd DX5_areScoresSound_0 6 rfl
theorem dX5_areScoresSound_9 : decode cX5_areScoresSound 9 = .ok (.aload_n 0, 1) := fo_dd DX5_areScoresSound_0 7 rfl
theorem dX5_areScoresSound_10 : decode cX5_areScoresSound 10 = .ok (.getfield 36, 3) := fo_dd DX5_areScoresSound_0 8 rfl
theorem dX5_areScoresSound_13 : decode cX5_areScoresSound 13 = .ok (.if_icmp .ge 94, 3) := fo_dd DX5_areScoresSound_0 9 rfl
theorem dX5_areScoresSound_16 : decode cX5_areScoresSound 16 = .ok (.aload_n 0, 1) := fo_dd DX5_areScoresSound_0 10 rfl
theorem dX5_areScoresSound_17 : decode cX5_areScoresSound 17 = .ok (.getfield 19, 3) := fo_dd DX5_areScoresSound_0 11 rfl
theorem dX5_areScoresSound_20 : decode cX5_areScoresSound 20 = .ok (.iload 4, 2) := fo_dd DX5_areScoresSound_0 12 rfl
theorem dX5_areScoresSound_22 : decode cX5_areScoresSound 22 = .ok (.aaload, 1) := fo_dd DX5_areScoresSound_0 13 rfl
theorem dX5_areScoresSound_23 : decode cX5_areScoresSound 23 = .ok (.astore 5, 2) := fo_dd DX5_areScoresSound_0 14 rfl
theorem dX5_areScoresSound_25 : decode cX5_areScoresSound 25 = .ok (.iconst 0, 1) := fo_dd DX5_areScoresSound_0 15 rfl
theorem dX5_areScoresSound_26 : decode cX5_areScoresSound 26 = .ok (.aload_n 0, 1) := fo_dd DX5_areScoresSound_0 16 rfl
theorem dX5_areScoresSound_27 : decode cX5_areScoresSound 27 = .ok (.getfield 11, 3) := fo_dd DX5_areScoresSound_0 17 rfl
theorem dX5_areScoresSound_30 : decode cX5_areScoresSound 30 = .ok (.iload_n 1, 1) := fo_dd DX5_areScoresSound_0 18 rfl
theorem dX5_areScoresSound_31 : decode cX5_areScoresSound 31 = .ok (.aaload, 1) := fo_dd DX5_areScoresSound_0 19 rfl
theorem dX5_areScoresSound_32 : decode cX5_areScoresSound 32 = .ok (.getfield 67, 3) := fo_dd DX5_areScoresSound_0 20 rfl
theorem dX5_areScoresSound_35 : decode cX5_areScoresSound 35 = .ok (.aload 5, 2) := fo_dd DX5_areScoresSound_0 21 rfl
theorem dX5_areScoresSound_37 : decode cX5_areScoresSound 37 = .ok (.invokevirtual 111, 3) := fo_dd DX5_areScoresSound_0 22 rfl
theorem dX5_areScoresSound_40 : decode cX5_areScoresSound 40 = .ok (.isub, 1) := fo_dd DX5_areScoresSound_0 23 rfl
theorem dX5_areScoresSound_41 : decode cX5_areScoresSound 41 = .ok (.invokestatic 114, 3) := fo_dd DX5_areScoresSound_0 24 rfl
theorem dX5_areScoresSound_44 : decode cX5_areScoresSound 44 = .ok (.istore 6, 2) := fo_dd DX5_areScoresSound_0 25 rfl
theorem dX5_areScoresSound_46 : decode cX5_areScoresSound 46 = .ok (.aload 5, 2) := fo_dd DX5_areScoresSound_0 26 rfl
theorem dX5_areScoresSound_48 : decode cX5_areScoresSound 48 = .ok (.getfield 120, 3) := fo_dd DX5_areScoresSound_0 27 rfl
theorem dX5_areScoresSound_51 : decode cX5_areScoresSound 51 = .ok (.iload_n 1, 1) := fo_dd DX5_areScoresSound_0 28 rfl
theorem dX5_areScoresSound_52 : decode cX5_areScoresSound 52 = .ok (.iaload, 1) := fo_dd DX5_areScoresSound_0 29 rfl
theorem dX5_areScoresSound_53 : decode cX5_areScoresSound 53 = .ok (.iload 6, 2) := fo_dd DX5_areScoresSound_0 30 rfl
theorem dX5_areScoresSound_55 : decode cX5_areScoresSound 55 = .ok (.if_icmp .eq 5, 3) := fo_dd DX5_areScoresSound_0 31 rfl
theorem dX5_areScoresSound_58 : decode cX5_areScoresSound 58 = .ok (.iconst 0, 1) := fo_dd DX5_areScoresSound_0 32 rfl
theorem dX5_areScoresSound_59 : decode cX5_areScoresSound 59 = .ok (.ireturn, 1) := fo_dd DX5_areScoresSound_0 33 rfl
theorem dX5_areScoresSound_60 : decode cX5_areScoresSound 60 = .ok (.aload 5, 2) := fo_dd DX5_areScoresSound_0 34 rfl
theorem dX5_areScoresSound_62 : decode cX5_areScoresSound 62 = .ok (.getfield 123, 3) := fo_dd DX5_areScoresSound_0 35 rfl
theorem dX5_areScoresSound_65 : decode cX5_areScoresSound 65 = .ok (.iload_n 1, 1) := fo_dd DX5_areScoresSound_0 36 rfl
theorem dX5_areScoresSound_66 : decode cX5_areScoresSound 66 = .ok (.daload, 1) := fo_dd DX5_areScoresSound_0 37 rfl
theorem dX5_areScoresSound_67 : decode cX5_areScoresSound 67 = .ok (.aload 5, 2) := fo_dd DX5_areScoresSound_0 38 rfl
theorem dX5_areScoresSound_69 : decode cX5_areScoresSound 69 = .ok (.aload_n 0, 1) := fo_dd DX5_areScoresSound_0 39 rfl
theorem dX5_areScoresSound_70 : decode cX5_areScoresSound 70 = .ok (.getfield 11, 3) := fo_dd DX5_areScoresSound_0 40 rfl
theorem dX5_areScoresSound_73 : decode cX5_areScoresSound 73 = .ok (.iload_n 1, 1) := fo_dd DX5_areScoresSound_0 41 rfl
theorem dX5_areScoresSound_74 : decode cX5_areScoresSound 74 = .ok (.aaload, 1) := fo_dd DX5_areScoresSound_0 42 rfl
theorem dX5_areScoresSound_75 : decode cX5_areScoresSound 75 = .ok (.invokevirtual 127, 3) := fo_dd DX5_areScoresSound_0 43 rfl
theorem dX5_areScoresSound_78 : decode cX5_areScoresSound 78 = .ok (.dcmp .l, 1) := fo_dd DX5_areScoresSound_0 44 rfl
theorem dX5_areScoresSound_79 : decode cX5_areScoresSound 79 = .ok (.ifCond .eq 5, 3) := fo_dd DX5_areScoresSound_0 45 rfl
theorem dX5_areScoresSound_82 : decode cX5_areScoresSound 82 = .ok (.iconst 0, 1) := fo_dd DX5_areScoresSound_0 46 rfl
theorem dX5_areScoresSound_83 : decode cX5_areScoresSound 83 = .ok (.ireturn, 1) := fo_dd DX5_areScoresSound_0 47 rfl
theorem dX5_areScoresSound_84 : decode cX5_areScoresSound 84 = .ok (.iload_n 2, 1) := fo_dd DX5_areScoresSound_0 48 rfl
theorem dX5_areScoresSound_85 : decode cX5_areScoresSound 85 = .ok (.iload 6, 2) := fo_dd DX5_areScoresSound_0 49 rfl
theorem dX5_areScoresSound_87 : decode cX5_areScoresSound 87 = .ok (.invokestatic 114, 3) := fo_dd DX5_areScoresSound_0 50 rfl
theorem dX5_areScoresSound_90 : decode cX5_areScoresSound 90 = .ok (.istore_n 2, 1) := fo_dd DX5_areScoresSound_0 51 rfl
theorem dX5_areScoresSound_91 : decode cX5_areScoresSound 91 = .ok (.iload_n 3, 1) := fo_dd DX5_areScoresSound_0 52 rfl
theorem dX5_areScoresSound_92 : decode cX5_areScoresSound 92 = .ok (.aload 5, 2) := fo_dd DX5_areScoresSound_0 53 rfl
theorem dX5_areScoresSound_94 : decode cX5_areScoresSound 94 = .ok (.getfield 63, 3) := fo_dd DX5_areScoresSound_0 54 rfl
theorem dX5_areScoresSound_97 : decode cX5_areScoresSound 97 = .ok (.iload_n 1, 1) := fo_dd DX5_areScoresSound_0 55 rfl
theorem dX5_areScoresSound_98 : decode cX5_areScoresSound 98 = .ok (.iaload, 1) := fo_dd DX5_areScoresSound_0 56 rfl
theorem dX5_areScoresSound_99 : decode cX5_areScoresSound 99 = .ok (.iadd, 1) := fo_dd DX5_areScoresSound_0 57 rfl
theorem dX5_areScoresSound_100 : decode cX5_areScoresSound 100 = .ok (.istore_n 3, 1) := fo_dd DX5_areScoresSound_0 58 rfl
theorem dX5_areScoresSound_101 : decode cX5_areScoresSound 101 = .ok (.iinc 4 1, 3) := fo_dd DX5_areScoresSound_0 59 rfl
theorem dX5_areScoresSound_104 : decode cX5_areScoresSound 104 = .ok (.goto (-97), 3) := fo_dd DX5_areScoresSound_0 60 rfl
theorem dX5_areScoresSound_107 : decode cX5_areScoresSound 107 = .ok (.iload_n 3, 1) := fo_dd DX5_areScoresSound_0 61 rfl
theorem dX5_areScoresSound_108 : decode cX5_areScoresSound 108 = .ok (.iload_n 2, 1) := fo_dd DX5_areScoresSound_0 62 rfl
theorem dX5_areScoresSound_109 : decode cX5_areScoresSound 109 = .ok (.if_icmp .ne 7, 3) := fo_dd DX5_areScoresSound_0 63 rfl
theorem DX5_areScoresSound_1 : fo_dl cX5_areScoresSound [(112, .iconst 1, 1), (113, .goto 4, 3), (116, .iconst 0, 1), (117, .ireturn, 1)] := by decide +kernel
theorem dX5_areScoresSound_112 : decode cX5_areScoresSound 112 = .ok (.iconst 1, 1) := fo_dd DX5_areScoresSound_1 0 rfl
theorem dX5_areScoresSound_113 : decode cX5_areScoresSound 113 = .ok (.goto 4, 3) := fo_dd DX5_areScoresSound_1 1 rfl
theorem dX5_areScoresSound_116 : decode cX5_areScoresSound 116 = .ok (.iconst 0, 1) := fo_dd DX5_areScoresSound_1 2 rfl
theorem dX5_areScoresSound_117 : decode cX5_areScoresSound 117 = .ok (.ireturn, 1) := fo_dd DX5_areScoresSound_1 3 rfl
