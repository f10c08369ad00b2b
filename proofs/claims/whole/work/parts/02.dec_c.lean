theorem dX12_init_0 : decode cX12_init 0 = .ok (.aload_n 0, 1) := by decide +kernel
theorem dX12_init_1 : decode cX12_init 1 = .ok (.invokespecial 1, 3) := by decide +kernel
theorem dX12_init_4 : decode cX12_init 4 = .ok (.aload_n 0, 1) := by decide +kernel
theorem dX12_init_5 : decode cX12_init 5 = .ok (.sipush 188, 3) := by decide +kernel
theorem dX12_init_8 : decode cX12_init 8 = .ok (.newarray .int, 2) := by decide +kernel
theorem dX12_init_10 : decode cX12_init 10 = .ok (.putfield 7, 3) := by decide +kernel
theorem dX12_init_13 : decode cX12_init 13 = .ok (.aload_n 0, 1) := by decide +kernel
theorem dX12_init_14 : decode cX12_init 14 = .ok (.sipush 376, 3) := by decide +kernel
theorem dX12_init_17 : decode cX12_init 17 = .ok (.newarray .int, 2) := by decide +kernel
theorem dX12_init_19 : decode cX12_init 19 = .ok (.putfield 13, 3) := by decide +kernel
theorem dX12_init_22 : decode cX12_init 22 = .ok (.aload_n 0, 1) := by decide +kernel
theorem dX12_init_23 : decode cX12_init 23 = .ok (.iconst 2, 1) := by decide +kernel
theorem dX12_init_24 : decode cX12_init 24 = .ok (.newarray .boolean, 2) := by decide +kernel
theorem dX12_init_26 : decode cX12_init 26 = .ok (.putfield 16, 3) := by decide +kernel
theorem dX12_init_29 : decode cX12_init 29 = .ok (.aload_n 0, 1) := by decide +kernel
theorem dX12_init_30 : decode cX12_init 30 = .ok (.iconst 3, 1) := by decide +kernel
theorem dX12_init_31 : decode cX12_init 31 = .ok (.newarray .int, 2) := by decide +kernel
theorem dX12_init_33 : decode cX12_init 33 = .ok (.putfield 20, 3) := by decide +kernel
theorem dX12_init_36 : decode cX12_init 36 = .ok (.aload_n 0, 1) := by decide +kernel
theorem dX12_init_37 : decode cX12_init 37 = .ok (.lconst 1, 1) := by decide +kernel
theorem dX12_init_38 : decode cX12_init 38 = .ok (.putfield 23, 3) := by decide +kernel
theorem dX12_init_41 : decode cX12_init 41 = .ok (.aload_n 0, 1) := by decide +kernel
theorem dX12_init_42 : decode cX12_init 42 = .ok (.bipush 7, 2) := by decide +kernel
theorem dX12_init_44 : decode cX12_init 44 = .ok (.newarray .int, 2) := by decide +kernel
theorem dX12_init_46 : decode cX12_init 46 = .ok (.putfield 27, 3) := by decide +kernel
theorem dX12_init_49 : decode cX12_init 49 = .ok (.aload_n 0, 1) := by decide +kernel
theorem dX12_init_50 : decode cX12_init 50 = .ok (.iconst 4, 1) := by decide +kernel
theorem dX12_init_51 : decode cX12_init 51 = .ok (.newarray .int, 2) := by decide +kernel
theorem dX12_init_53 : decode cX12_init 53 = .ok (.putfield 30, 3) := by decide +kernel
theorem dX12_init_56 : decode cX12_init 56 = .ok (.aload_n 0, 1) := by decide +kernel
theorem dX12_init_57 : decode cX12_init 57 = .ok (.sipush 150, 3) := by decide +kernel
theorem dX12_init_60 : decode cX12_init 60 = .ok (.newarray .int, 2) := by decide +kernel
theorem dX12_init_62 : decode cX12_init 62 = .ok (.putfield 33, 3) := by decide +kernel
theorem dX12_init_65 : decode cX12_init 65 = .ok (.aload_n 0, 1) := by decide +kernel
theorem dX12_init_66 : decode cX12_init 66 = .ok (.bipush 68, 2) := by decide +kernel
theorem dX12_init_68 : decode cX12_init 68 = .ok (.newarray .int, 2) := by decide +kernel
theorem dX12_init_70 : decode cX12_init 70 = .ok (.putfield 36, 3) := by decide +kernel
theorem dX12_init_73 : decode cX12_init 73 = .ok (.aload_n 0, 1) := by decide +kernel
theorem dX12_init_74 : decode cX12_init 74 = .ok (.iconst 2, 1) := by decide +kernel
theorem dX12_init_75 : decode cX12_init 75 = .ok (.newarray .int, 2) := by decide +kernel
theorem dX12_init_77 : decode cX12_init 77 = .ok (.putfield 39, 3) := by decide +kernel
theorem dX12_init_80 : decode cX12_init 80 = .ok (.aload_n 0, 1) := by decide +kernel
theorem dX12_init_81 : decode cX12_init 81 = .ok (.getfield 7, 3) := by decide +kernel
theorem dX12_init_84 : decode cX12_init 84 = .ok (.iconst 0, 1) := by decide +kernel
theorem dX12_init_85 : decode cX12_init 85 = .ok (.invokestatic 42, 3) := by decide +kernel
theorem dX12_init_88 : decode cX12_init 88 = .ok (.return_, 1) := by decide +kernel
theorem dX12_in_0 : decode cX12_in 0 = .ok (.lload_n 0, 1) := by decide +kernel
theorem dX12_in_1 : decode cX12_in 1 = .ok (.lload_n 2, 1) := by decide +kernel
theorem dX12_in_2 : decode cX12_in 2 = .ok (.lcmp, 1) := by decide +kernel
theorem dX12_in_3 : decode cX12_in 3 = .ok (.ifCond .lt 14, 3) := by decide +kernel
theorem dX12_in_6 : decode cX12_in 6 = .ok (.lload_n 0, 1) := by decide +kernel
theorem dX12_in_7 : decode cX12_in 7 = .ok (.lload 4, 2) := by decide +kernel
theorem dX12_in_9 : decode cX12_in 9 = .ok (.lcmp, 1) := by decide +kernel
theorem dX12_in_10 : decode cX12_in 10 = .ok (.ifCond .gt 7, 3) := by decide +kernel
theorem dX12_in_13 : decode cX12_in 13 = .ok (.iconst 1, 1) := by decide +kernel
theorem dX12_in_14 : decode cX12_in 14 = .ok (.goto 4, 3) := by decide +kernel
theorem dX12_in_17 : decode cX12_in 17 = .ok (.iconst 0, 1) := by decide +kernel
theorem dX12_in_18 : decode cX12_in 18 = .ok (.ireturn, 1) := by decide +kernel
theorem dX12_bad_0 : decode cX12_bad 0 = .ok (.aload_n 0, 1) := by decide +kernel
theorem dX12_bad_1 : decode cX12_bad 1 = .ok (.getfield 20, 3) := by decide +kernel
theorem dX12_bad_4 : decode cX12_bad 4 = .ok (.iconst 0, 1) := by decide +kernel
theorem dX12_bad_5 : decode cX12_bad 5 = .ok (.dup2, 1) := by decide +kernel
theorem dX12_bad_6 : decode cX12_bad 6 = .ok (.iaload, 1) := by decide +kernel
theorem dX12_bad_7 : decode cX12_bad 7 = .ok (.iconst 1, 1) := by decide +kernel
theorem dX12_bad_8 : decode cX12_bad 8 = .ok (.iadd, 1) := by decide +kernel
theorem dX12_bad_9 : decode cX12_bad 9 = .ok (.iastore, 1) := by decide +kernel
theorem dX12_bad_10 : decode cX12_bad 10 = .ok (.iload_n 1, 1) := by decide +kernel
theorem dX12_bad_11 : decode cX12_bad 11 = .ok (.ireturn, 1) := by decide +kernel
theorem dX12_no_0 : decode cX12_no 0 = .ok (.aload_n 0, 1) := by decide +kernel
theorem dX12_no_1 : decode cX12_no 1 = .ok (.getfield 20, 3) := by decide +kernel
theorem dX12_no_4 : decode cX12_no 4 = .ok (.iconst 1, 1) := by decide +kernel
theorem dX12_no_5 : decode cX12_no 5 = .ok (.dup2, 1) := by decide +kernel
theorem dX12_no_6 : decode cX12_no 6 = .ok (.iaload, 1) := by decide +kernel
theorem dX12_no_7 : decode cX12_no 7 = .ok (.iconst 1, 1) := by decide +kernel
theorem dX12_no_8 : decode cX12_no 8 = .ok (.iadd, 1) := by decide +kernel
theorem dX12_no_9 : decode cX12_no 9 = .ok (.iastore, 1) := by decide +kernel
theorem dX12_no_10 : decode cX12_no 10 = .ok (.bipush (-3), 2) := by decide +kernel
theorem dX12_no_12 : decode cX12_no 12 = .ok (.ireturn, 1) := by decide +kernel
theorem dX12_full_0 : decode cX12_full 0 = .ok (.aload_n 0, 1) := by decide +kernel
theorem dX12_full_1 : decode cX12_full 1 = .ok (.getfield 20, 3) := by decide +kernel
theorem dX12_full_4 : decode cX12_full 4 = .ok (.iconst 2, 1) := by decide +kernel
theorem dX12_full_5 : decode cX12_full 5 = .ok (.dup2, 1) := by decide +kernel
theorem dX12_full_6 : decode cX12_full 6 = .ok (.iaload, 1) := by decide +kernel
theorem dX12_full_7 : decode cX12_full 7 = .ok (.iconst 1, 1) := by decide +kernel
theorem dX12_full_8 : decode cX12_full 8 = .ok (.iadd, 1) := by decide +kernel
theorem dX12_full_9 : decode cX12_full 9 = .ok (.iastore, 1) := by decide +kernel
theorem dX12_full_10 : decode cX12_full 10 = .ok (.bipush (-4), 2) := by decide +kernel
theorem dX12_full_12 : decode cX12_full 12 = .ok (.ireturn, 1) := by decide +kernel
theorem dX12_bits_0 : decode cX12_bits 0 = .ok (.iconst 0, 1) := by decide +kernel
theorem dX12_bits_1 : decode cX12_bits 1 = .ok (.istore_n 1, 1) := by decide +kernel
theorem dX12_bits_2 : decode cX12_bits 2 = .ok (.iload_n 0, 1) := by decide +kernel
theorem dX12_bits_3 : decode cX12_bits 3 = .ok (.istore_n 2, 1) := by decide +kernel
theorem dX12_bits_4 : decode cX12_bits 4 = .ok (.iload_n 2, 1) := by decide +kernel
theorem dX12_bits_5 : decode cX12_bits 5 = .ok (.ifCond .le 16, 3) := by decide +kernel
theorem dX12_bits_8 : decode cX12_bits 8 = .ok (.iload_n 1, 1) := by decide +kernel
theorem dX12_bits_9 : decode cX12_bits 9 = .ok (.iload_n 2, 1) := by decide +kernel
theorem dX12_bits_10 : decode cX12_bits 10 = .ok (.iconst 1, 1) := by decide +kernel
theorem dX12_bits_11 : decode cX12_bits 11 = .ok (.iand, 1) := by decide +kernel
theorem dX12_bits_12 : decode cX12_bits 12 = .ok (.iadd, 1) := by decide +kernel
theorem dX12_bits_13 : decode cX12_bits 13 = .ok (.istore_n 1, 1) := by decide +kernel
theorem dX12_bits_14 : decode cX12_bits 14 = .ok (.iload_n 2, 1) := by decide +kernel
theorem dX12_bits_15 : decode cX12_bits 15 = .ok (.iconst 1, 1) := by decide +kernel
theorem dX12_bits_16 : decode cX12_bits 16 = .ok (.ishr, 1) := by decide +kernel
theorem dX12_bits_17 : decode cX12_bits 17 = .ok (.istore_n 2, 1) := by decide +kernel
theorem dX12_bits_18 : decode cX12_bits 18 = .ok (.goto (-14), 3) := by decide +kernel
theorem dX12_bits_21 : decode cX12_bits 21 = .ok (.iload_n 1, 1) := by decide +kernel
theorem dX12_bits_22 : decode cX12_bits 22 = .ok (.ireturn, 1) := by decide +kernel
theorem dX12_has_0 : decode cX12_has 0 = .ok (.iload_n 0, 1) := by decide +kernel
theorem dX12_has_1 : decode cX12_has 1 = .ok (.iload_n 1, 1) := by decide +kernel
theorem dX12_has_2 : decode cX12_has 2 = .ok (.ishr, 1) := by decide +kernel
theorem dX12_has_3 : decode cX12_has 3 = .ok (.iconst 1, 1) := by decide +kernel
theorem dX12_has_4 : decode cX12_has 4 = .ok (.iand, 1) := by decide +kernel
theorem dX12_has_5 : decode cX12_has 5 = .ok (.iconst 1, 1) := by decide +kernel
theorem dX12_has_6 : decode cX12_has 6 = .ok (.if_icmp .ne 7, 3) := by decide +kernel
theorem dX12_has_9 : decode cX12_has 9 = .ok (.iconst 1, 1) := by decide +kernel
theorem dX12_has_10 : decode cX12_has 10 = .ok (.goto 4, 3) := by decide +kernel
theorem dX12_has_13 : decode cX12_has 13 = .ok (.iconst 0, 1) := by decide +kernel
theorem dX12_has_14 : decode cX12_has 14 = .ok (.ireturn, 1) := by decide +kernel
theorem dX12_begin_0 : decode cX12_begin 0 = .ok (.iconst 0, 1) := by decide +kernel
theorem dX12_begin_1 : decode cX12_begin 1 = .ok (.istore_n 2, 1) := by decide +kernel
theorem dX12_begin_2 : decode cX12_begin 2 = .ok (.iload_n 2, 1) := by decide +kernel
theorem dX12_begin_3 : decode cX12_begin 3 = .ok (.bipush 68, 2) := by decide +kernel
theorem dX12_begin_5 : decode cX12_begin 5 = .ok (.if_icmp .ge 13, 3) := by decide +kernel
theorem dX12_begin_8 : decode cX12_begin 8 = .ok (.aload_n 0, 1) := by decide +kernel
theorem dX12_begin_9 : decode cX12_begin 9 = .ok (.iload_n 2, 1) := by decide +kernel
theorem dX12_begin_10 : decode cX12_begin 10 = .ok (.iconst 0, 1) := by decide +kernel
theorem dX12_begin_11 : decode cX12_begin 11 = .ok (.iastore, 1) := by decide +kernel
theorem dX12_begin_12 : decode cX12_begin 12 = .ok (.iinc 2 1, 3) := by decide +kernel
theorem dX12_begin_15 : decode cX12_begin 15 = .ok (.goto (-13), 3) := by decide +kernel
theorem dX12_begin_18 : decode cX12_begin 18 = .ok (.aload_n 0, 1) := by decide +kernel
theorem dX12_begin_19 : decode cX12_begin 19 = .ok (.iconst 1, 1) := by decide +kernel
theorem dX12_begin_20 : decode cX12_begin 20 = .ok (.iload_n 1, 1) := by decide +kernel
theorem dX12_begin_21 : decode cX12_begin 21 = .ok (.iastore, 1) := by decide +kernel
theorem dX12_begin_22 : decode cX12_begin 22 = .ok (.return_, 1) := by decide +kernel
theorem dX12_many_0 : decode cX12_many 0 = .ok (.aload_n 0, 1) := by decide +kernel
theorem dX12_many_1 : decode cX12_many 1 = .ok (.getfield 7, 3) := by decide +kernel
theorem dX12_many_4 : decode cX12_many 4 = .ok (.iconst 0, 1) := by decide +kernel
theorem dX12_many_5 : decode cX12_many 5 = .ok (.iaload, 1) := by decide +kernel
theorem dX12_many_6 : decode cX12_many 6 = .ok (.ireturn, 1) := by decide +kernel
theorem dX12_isOne_0 : decode cX12_isOne 0 = .ok (.iload_n 1, 1) := by decide +kernel
theorem dX12_isOne_1 : decode cX12_isOne 1 = .ok (.i2l, 1) := by decide +kernel
theorem dX12_isOne_2 : decode cX12_isOne 2 = .ok (.lconst 0, 1) := by decide +kernel
theorem dX12_isOne_3 : decode cX12_isOne 3 = .ok (.aload_n 0, 1) := by decide +kernel
theorem dX12_isOne_4 : decode cX12_isOne 4 = .ok (.invokevirtual 46, 3) := by decide +kernel
theorem dX12_isOne_7 : decode cX12_isOne 7 = .ok (.iconst 1, 1) := by decide +kernel
theorem dX12_isOne_8 : decode cX12_isOne 8 = .ok (.isub, 1) := by decide +kernel
theorem dX12_isOne_9 : decode cX12_isOne 9 = .ok (.i2l, 1) := by decide +kernel
theorem dX12_isOne_10 : decode cX12_isOne 10 = .ok (.invokestatic 50, 3) := by decide +kernel
theorem dX12_isOne_13 : decode cX12_isOne 13 = .ok (.ireturn, 1) := by decide +kernel
theorem dX12_isPlace_0 : decode cX12_isPlace 0 = .ok (.iload_n 0, 1) := by decide +kernel
theorem dX12_isPlace_1 : decode cX12_isPlace 1 = .ok (.i2l, 1) := by decide +kernel
theorem dX12_isPlace_2 : decode cX12_isPlace 2 = .ok (.lconst 0, 1) := by decide +kernel
theorem dX12_isPlace_3 : decode cX12_isPlace 3 = .ok (.ldc2_w 54, 3) := by decide +kernel
theorem dX12_isPlace_6 : decode cX12_isPlace 6 = .ok (.invokestatic 50, 3) := by decide +kernel
theorem dX12_isPlace_9 : decode cX12_isPlace 9 = .ok (.ireturn, 1) := by decide +kernel
theorem dX12_hamlet_0 : decode cX12_hamlet 0 = .ok (.iload_n 1, 1) := by decide +kernel
theorem dX12_hamlet_1 : decode cX12_hamlet 1 = .ok (.i2l, 1) := by decide +kernel
theorem dX12_hamlet_2 : decode cX12_hamlet 2 = .ok (.lconst 0, 1) := by decide +kernel
theorem dX12_hamlet_3 : decode cX12_hamlet 3 = .ok (.ldc2_w 56, 3) := by decide +kernel
theorem dX12_hamlet_6 : decode cX12_hamlet 6 = .ok (.invokestatic 50, 3) := by decide +kernel
theorem dX12_hamlet_9 : decode cX12_hamlet 9 = .ok (.ifCond .ne 10, 3) := by decide +kernel
theorem dX12_hamlet_12 : decode cX12_hamlet 12 = .ok (.aload_n 0, 1) := by decide +kernel
theorem dX12_hamlet_13 : decode cX12_hamlet 13 = .ok (.bipush (-2), 2) := by decide +kernel
theorem dX12_hamlet_15 : decode cX12_hamlet 15 = .ok (.invokevirtual 58, 3) := by decide +kernel
theorem dX12_hamlet_18 : decode cX12_hamlet 18 = .ok (.ireturn, 1) := by decide +kernel
theorem dX12_hamlet_19 : decode cX12_hamlet 19 = .ok (.aload_n 0, 1) := by decide +kernel
theorem dX12_hamlet_20 : decode cX12_hamlet 20 = .ok (.invokevirtual 46, 3) := by decide +kernel
theorem dX12_hamlet_23 : decode cX12_hamlet 23 = .ok (.istore_n 2, 1) := by decide +kernel
theorem dX12_hamlet_24 : decode cX12_hamlet 24 = .ok (.aload_n 0, 1) := by decide +kernel
theorem dX12_hamlet_25 : decode cX12_hamlet 25 = .ok (.getfield 7, 3) := by decide +kernel
theorem dX12_hamlet_28 : decode cX12_hamlet 28 = .ok (.iload_n 1, 1) := by decide +kernel
theorem dX12_hamlet_29 : decode cX12_hamlet 29 = .ok (.invokestatic 42, 3) := by decide +kernel
theorem dX12_hamlet_32 : decode cX12_hamlet 32 = .ok (.iload_n 2, 1) := by decide +kernel
theorem dX12_hamlet_33 : decode cX12_hamlet 33 = .ok (.ireturn, 1) := by decide +kernel
theorem dX12_layOne_0 : decode cX12_layOne 0 = .ok (.aload_n 0, 1) := by decide +kernel
theorem dX12_layOne_1 : decode cX12_layOne 1 = .ok (.iconst 0, 1) := by decide +kernel
theorem dX12_layOne_2 : decode cX12_layOne 2 = .ok (.iaload, 1) := by decide +kernel
theorem dX12_layOne_3 : decode cX12_layOne 3 = .ok (.istore_n 3, 1) := by decide +kernel
theorem dX12_layOne_4 : decode cX12_layOne 4 = .ok (.aload_n 0, 1) := by decide +kernel
theorem dX12_layOne_5 : decode cX12_layOne 5 = .ok (.iconst 5, 1) := by decide +kernel
theorem dX12_layOne_6 : decode cX12_layOne 6 = .ok (.iload_n 3, 1) := by decide +kernel
theorem dX12_layOne_7 : decode cX12_layOne 7 = .ok (.iadd, 1) := by decide +kernel
theorem dX12_layOne_8 : decode cX12_layOne 8 = .ok (.iload_n 3, 1) := by decide +kernel
theorem dX12_layOne_9 : decode cX12_layOne 9 = .ok (.iastore, 1) := by decide +kernel
theorem dX12_layOne_10 : decode cX12_layOne 10 = .ok (.aload_n 0, 1) := by decide +kernel
theorem dX12_layOne_11 : decode cX12_layOne 11 = .ok (.bipush 12, 2) := by decide +kernel
theorem dX12_layOne_13 : decode cX12_layOne 13 = .ok (.iload_n 3, 1) := by decide +kernel
theorem dX12_layOne_14 : decode cX12_layOne 14 = .ok (.iadd, 1) := by decide +kernel
theorem dX12_layOne_15 : decode cX12_layOne 15 = .ok (.iload_n 2, 1) := by decide +kernel
theorem dX12_layOne_16 : decode cX12_layOne 16 = .ok (.iastore, 1) := by decide +kernel
theorem dX12_layOne_17 : decode cX12_layOne 17 = .ok (.aload_n 0, 1) := by decide +kernel
theorem dX12_layOne_18 : decode cX12_layOne 18 = .ok (.bipush 19, 2) := by decide +kernel
theorem dX12_layOne_20 : decode cX12_layOne 20 = .ok (.iload_n 3, 1) := by decide +kernel
theorem dX12_layOne_21 : decode cX12_layOne 21 = .ok (.iadd, 1) := by decide +kernel
theorem dX12_layOne_22 : decode cX12_layOne 22 = .ok (.iload_n 1, 1) := by decide +kernel
theorem dX12_layOne_23 : decode cX12_layOne 23 = .ok (.iastore, 1) := by decide +kernel
theorem dX12_layOne_24 : decode cX12_layOne 24 = .ok (.aload_n 0, 1) := by decide +kernel
theorem dX12_layOne_25 : decode cX12_layOne 25 = .ok (.iconst 0, 1) := by decide +kernel
theorem dX12_layOne_26 : decode cX12_layOne 26 = .ok (.dup2, 1) := by decide +kernel
theorem dX12_layOne_27 : decode cX12_layOne 27 = .ok (.iaload, 1) := by decide +kernel
theorem dX12_layOne_28 : decode cX12_layOne 28 = .ok (.iconst 1, 1) := by decide +kernel
theorem dX12_layOne_29 : decode cX12_layOne 29 = .ok (.iadd, 1) := by decide +kernel
theorem dX12_layOne_30 : decode cX12_layOne 30 = .ok (.iastore, 1) := by decide +kernel
theorem dX12_layOne_31 : decode cX12_layOne 31 = .ok (.return_, 1) := by decide +kernel
theorem dX12_one_0 : decode cX12_one 0 = .ok (.iload_n 1, 1) := by decide +kernel
theorem dX12_one_1 : decode cX12_one 1 = .ok (.i2l, 1) := by decide +kernel
theorem dX12_one_2 : decode cX12_one 2 = .ok (.lconst 0, 1) := by decide +kernel
theorem dX12_one_3 : decode cX12_one 3 = .ok (.ldc2_w 62, 3) := by decide +kernel
theorem dX12_one_6 : decode cX12_one 6 = .ok (.invokestatic 50, 3) := by decide +kernel
theorem dX12_one_9 : decode cX12_one 9 = .ok (.ifCond .eq 10, 3) := by decide +kernel
theorem dX12_one_12 : decode cX12_one 12 = .ok (.iload_n 2, 1) := by decide +kernel
theorem dX12_one_13 : decode cX12_one 13 = .ok (.invokestatic 64, 3) := by decide +kernel
theorem dX12_one_16 : decode cX12_one 16 = .ok (.ifCond .ne 10, 3) := by decide +kernel
theorem dX12_one_19 : decode cX12_one 19 = .ok (.aload_n 0, 1) := by decide +kernel
theorem dX12_one_20 : decode cX12_one 20 = .ok (.bipush (-2), 2) := by decide +kernel
theorem dX12_one_22 : decode cX12_one 22 = .ok (.invokevirtual 58, 3) := by decide +kernel
theorem dX12_one_25 : decode cX12_one 25 = .ok (.ireturn, 1) := by decide +kernel
theorem dX12_one_26 : decode cX12_one 26 = .ok (.aload_n 0, 1) := by decide +kernel
theorem dX12_one_27 : decode cX12_one 27 = .ok (.invokevirtual 46, 3) := by decide +kernel
theorem dX12_one_30 : decode cX12_one 30 = .ok (.bipush 7, 2) := by decide +kernel
theorem dX12_one_32 : decode cX12_one 32 = .ok (.if_icmp .ne 8, 3) := by decide +kernel
theorem dX12_one_35 : decode cX12_one 35 = .ok (.aload_n 0, 1) := by decide +kernel
theorem dX12_one_36 : decode cX12_one 36 = .ok (.invokevirtual 68, 3) := by decide +kernel
theorem dX12_one_39 : decode cX12_one 39 = .ok (.ireturn, 1) := by decide +kernel
theorem dX12_one_40 : decode cX12_one 40 = .ok (.aload_n 0, 1) := by decide +kernel
theorem dX12_one_41 : decode cX12_one 41 = .ok (.getfield 7, 3) := by decide +kernel
theorem dX12_one_44 : decode cX12_one 44 = .ok (.iload_n 1, 1) := by decide +kernel
theorem dX12_one_45 : decode cX12_one 45 = .ok (.iload_n 2, 1) := by decide +kernel
theorem dX12_one_46 : decode cX12_one 46 = .ok (.invokestatic 71, 3) := by decide +kernel
theorem dX12_one_49 : decode cX12_one 49 = .ok (.aload_n 0, 1) := by decide +kernel
theorem dX12_one_50 : decode cX12_one 50 = .ok (.getfield 7, 3) := by decide +kernel
theorem dX12_one_53 : decode cX12_one 53 = .ok (.iconst 4, 1) := by decide +kernel
theorem dX12_one_54 : decode cX12_one 54 = .ok (.iconst 0, 1) := by decide +kernel
theorem dX12_one_55 : decode cX12_one 55 = .ok (.iastore, 1) := by decide +kernel
theorem dX12_one_56 : decode cX12_one 56 = .ok (.aload_n 0, 1) := by decide +kernel
theorem dX12_one_57 : decode cX12_one 57 = .ok (.invokevirtual 46, 3) := by decide +kernel
theorem dX12_one_60 : decode cX12_one 60 = .ok (.iconst 1, 1) := by decide +kernel
theorem dX12_one_61 : decode cX12_one 61 = .ok (.isub, 1) := by decide +kernel
theorem dX12_one_62 : decode cX12_one 62 = .ok (.ireturn, 1) := by decide +kernel
theorem dX12_turnsAs_0 : decode cX12_turnsAs 0 = .ok (.iload_n 1, 1) := by decide +kernel
theorem dX12_turnsAs_1 : decode cX12_turnsAs 1 = .ok (.iconst 3, 1) := by decide +kernel
theorem dX12_turnsAs_2 : decode cX12_turnsAs 2 = .ok (.if_icmp .gt 11, 3) := by decide +kernel
theorem dX12_turnsAs_5 : decode cX12_turnsAs 5 = .ok (.iload_n 2, 1) := by decide +kernel
theorem dX12_turnsAs_6 : decode cX12_turnsAs 6 = .ok (.ifCond .eq 7, 3) := by decide +kernel
theorem dX12_turnsAs_9 : decode cX12_turnsAs 9 = .ok (.iconst 1, 1) := by decide +kernel
theorem dX12_turnsAs_10 : decode cX12_turnsAs 10 = .ok (.goto 4, 3) := by decide +kernel
theorem dX12_turnsAs_13 : decode cX12_turnsAs 13 = .ok (.iconst 0, 1) := by decide +kernel
theorem dX12_turnsAs_14 : decode cX12_turnsAs 14 = .ok (.istore 5, 2) := by decide +kernel
theorem dX12_turnsAs_16 : decode cX12_turnsAs 16 = .ok (.iload_n 0, 1) := by decide +kernel
theorem dX12_turnsAs_17 : decode cX12_turnsAs 17 = .ok (.tableswitch 101 1 5 #[35, 38, 49, 61, 80], 35) := by decide +kernel
theorem dX12_turnsAs_52 : decode cX12_turnsAs 52 = .ok (.iload 5, 2) := by decide +kernel
theorem dX12_turnsAs_54 : decode cX12_turnsAs 54 = .ok (.ireturn, 1) := by decide +kernel
theorem dX12_turnsAs_55 : decode cX12_turnsAs 55 = .ok (.iload_n 1, 1) := by decide +kernel
theorem dX12_turnsAs_56 : decode cX12_turnsAs 56 = .ok (.iconst 1, 1) := by decide +kernel
theorem dX12_turnsAs_57 : decode cX12_turnsAs 57 = .ok (.if_icmp .gt 7, 3) := by decide +kernel
theorem dX12_turnsAs_60 : decode cX12_turnsAs 60 = .ok (.iconst 1, 1) := by decide +kernel
theorem dX12_turnsAs_61 : decode cX12_turnsAs 61 = .ok (.goto 4, 3) := by decide +kernel
theorem dX12_turnsAs_64 : decode cX12_turnsAs 64 = .ok (.iconst 0, 1) := by decide +kernel
theorem dX12_turnsAs_65 : decode cX12_turnsAs 65 = .ok (.ireturn, 1) := by decide +kernel
theorem dX12_turnsAs_66 : decode cX12_turnsAs 66 = .ok (.iload_n 1, 1) := by decide +kernel
theorem dX12_turnsAs_67 : decode cX12_turnsAs 67 = .ok (.bipush 6, 2) := by decide +kernel
theorem dX12_turnsAs_69 : decode cX12_turnsAs 69 = .ok (.if_icmp .gt 7, 3) := by decide +kernel
theorem dX12_turnsAs_72 : decode cX12_turnsAs 72 = .ok (.iconst 1, 1) := by decide +kernel
theorem dX12_turnsAs_73 : decode cX12_turnsAs 73 = .ok (.goto 4, 3) := by decide +kernel
theorem dX12_turnsAs_76 : decode cX12_turnsAs 76 = .ok (.iconst 0, 1) := by decide +kernel
theorem dX12_turnsAs_77 : decode cX12_turnsAs 77 = .ok (.ireturn, 1) := by decide +kernel
theorem dX12_turnsAs_78 : decode cX12_turnsAs 78 = .ok (.iload_n 1, 1) := by decide +kernel
theorem dX12_turnsAs_79 : decode cX12_turnsAs 79 = .ok (.bipush 6, 2) := by decide +kernel
theorem dX12_turnsAs_81 : decode cX12_turnsAs 81 = .ok (.if_icmp .gt 14, 3) := by decide +kernel
theorem dX12_turnsAs_84 : decode cX12_turnsAs 84 = .ok (.iload 4, 2) := by decide +kernel
theorem dX12_turnsAs_86 : decode cX12_turnsAs 86 = .ok (.iconst 2, 1) := by decide +kernel
theorem dX12_turnsAs_87 : decode cX12_turnsAs 87 = .ok (.irem, 1) := by decide +kernel
theorem dX12_turnsAs_88 : decode cX12_turnsAs 88 = .ok (.ifCond .ne 7, 3) := by decide +kernel
theorem dX12_turnsAs_91 : decode cX12_turnsAs 91 = .ok (.iconst 1, 1) := by decide +kernel
theorem dX12_turnsAs_92 : decode cX12_turnsAs 92 = .ok (.goto 4, 3) := by decide +kernel
theorem dX12_turnsAs_95 : decode cX12_turnsAs 95 = .ok (.iconst 0, 1) := by decide +kernel
theorem dX12_turnsAs_96 : decode cX12_turnsAs 96 = .ok (.ireturn, 1) := by decide +kernel
theorem dX12_turnsAs_97 : decode cX12_turnsAs 97 = .ok (.iload 5, 2) := by decide +kernel
theorem dX12_turnsAs_99 : decode cX12_turnsAs 99 = .ok (.ifCond .ne 13, 3) := by decide +kernel
theorem dX12_turnsAs_102 : decode cX12_turnsAs 102 = .ok (.iload_n 3, 1) := by decide +kernel
theorem dX12_turnsAs_103 : decode cX12_turnsAs 103 = .ok (.ifCond .eq 13, 3) := by decide +kernel
theorem dX12_turnsAs_106 : decode cX12_turnsAs 106 = .ok (.iload_n 1, 1) := by decide +kernel
theorem dX12_turnsAs_107 : decode cX12_turnsAs 107 = .ok (.bipush 6, 2) := by decide +kernel
theorem dX12_turnsAs_109 : decode cX12_turnsAs 109 = .ok (.if_icmp .gt 7, 3) := by decide +kernel
theorem dX12_turnsAs_112 : decode cX12_turnsAs 112 = .ok (.iconst 1, 1) := by decide +kernel
theorem dX12_turnsAs_113 : decode cX12_turnsAs 113 = .ok (.goto 4, 3) := by decide +kernel
theorem dX12_turnsAs_116 : decode cX12_turnsAs 116 = .ok (.iconst 0, 1) := by decide +kernel
theorem dX12_turnsAs_117 : decode cX12_turnsAs 117 = .ok (.ireturn, 1) := by decide +kernel
theorem dX12_turnsAs_118 : decode cX12_turnsAs 118 = .ok (.iload_n 1, 1) := by decide +kernel
theorem dX12_turnsAs_119 : decode cX12_turnsAs 119 = .ok (.iconst 3, 1) := by decide +kernel
theorem dX12_turnsAs_120 : decode cX12_turnsAs 120 = .ok (.if_icmp .gt 7, 3) := by decide +kernel
theorem dX12_turnsAs_123 : decode cX12_turnsAs 123 = .ok (.iconst 1, 1) := by decide +kernel
theorem dX12_turnsAs_124 : decode cX12_turnsAs 124 = .ok (.goto 4, 3) := by decide +kernel
theorem dX12_turnsAs_127 : decode cX12_turnsAs 127 = .ok (.iconst 0, 1) := by decide +kernel
theorem dX12_turnsAs_128 : decode cX12_turnsAs 128 = .ok (.ireturn, 1) := by decide +kernel
theorem dX12_farOf_0 : decode cX12_farOf 0 = .ok (.iload_n 0, 1) := by decide +kernel
theorem dX12_farOf_1 : decode cX12_farOf 1 = .ok (.iload_n 1, 1) := by decide +kernel
theorem dX12_farOf_2 : decode cX12_farOf 2 = .ok (.if_icmp .ge 9, 3) := by decide +kernel
theorem dX12_farOf_5 : decode cX12_farOf 5 = .ok (.iload_n 1, 1) := by decide +kernel
theorem dX12_farOf_6 : decode cX12_farOf 6 = .ok (.iload_n 0, 1) := by decide +kernel
theorem dX12_farOf_7 : decode cX12_farOf 7 = .ok (.isub, 1) := by decide +kernel
theorem dX12_farOf_8 : decode cX12_farOf 8 = .ok (.goto 6, 3) := by decide +kernel
theorem dX12_farOf_11 : decode cX12_farOf 11 = .ok (.iload_n 0, 1) := by decide +kernel
theorem dX12_farOf_12 : decode cX12_farOf 12 = .ok (.iload_n 1, 1) := by decide +kernel
theorem dX12_farOf_13 : decode cX12_farOf 13 = .ok (.isub, 1) := by decide +kernel
theorem dX12_farOf_14 : decode cX12_farOf 14 = .ok (.ireturn, 1) := by decide +kernel
theorem dX12_layHand_0 : decode cX12_layHand 0 = .ok (.iconst 0, 1) := by decide +kernel
theorem dX12_layHand_1 : decode cX12_layHand 1 = .ok (.istore_n 1, 1) := by decide +kernel
theorem dX12_layHand_2 : decode cX12_layHand 2 = .ok (.iload_n 1, 1) := by decide +kernel
theorem dX12_layHand_3 : decode cX12_layHand 3 = .ok (.aload_n 0, 1) := by decide +kernel
theorem dX12_layHand_4 : decode cX12_layHand 4 = .ok (.invokevirtual 46, 3) := by decide +kernel
theorem dX12_layHand_7 : decode cX12_layHand 7 = .ok (.if_icmp .ge 23, 3) := by decide +kernel
theorem dX12_layHand_10 : decode cX12_layHand 10 = .ok (.aload_n 0, 1) := by decide +kernel
theorem dX12_layHand_11 : decode cX12_layHand 11 = .ok (.getfield 27, 3) := by decide +kernel
theorem dX12_layHand_14 : decode cX12_layHand 14 = .ok (.iload_n 1, 1) := by decide +kernel
theorem dX12_layHand_15 : decode cX12_layHand 15 = .ok (.aload_n 0, 1) := by decide +kernel
theorem dX12_layHand_16 : decode cX12_layHand 16 = .ok (.getfield 7, 3) := by decide +kernel
theorem dX12_layHand_19 : decode cX12_layHand 19 = .ok (.iconst 5, 1) := by decide +kernel
theorem dX12_layHand_20 : decode cX12_layHand 20 = .ok (.iload_n 1, 1) := by decide +kernel
theorem dX12_layHand_21 : decode cX12_layHand 21 = .ok (.iadd, 1) := by decide +kernel
theorem dX12_layHand_22 : decode cX12_layHand 22 = .ok (.iaload, 1) := by decide +kernel
theorem dX12_layHand_23 : decode cX12_layHand 23 = .ok (.iastore, 1) := by decide +kernel
theorem dX12_layHand_24 : decode cX12_layHand 24 = .ok (.iinc 1 1, 3) := by decide +kernel
theorem dX12_layHand_27 : decode cX12_layHand 27 = .ok (.goto (-25), 3) := by decide +kernel
theorem dX12_layHand_30 : decode cX12_layHand 30 = .ok (.return_, 1) := by decide +kernel
theorem dX12_bearersOf_0 : decode cX12_bearersOf 0 = .ok (.iconst 0, 1) := by decide +kernel
theorem dX12_bearersOf_1 : decode cX12_bearersOf 1 = .ok (.istore_n 2, 1) := by decide +kernel
theorem dX12_bearersOf_2 : decode cX12_bearersOf 2 = .ok (.iconst 0, 1) := by decide +kernel
theorem dX12_bearersOf_3 : decode cX12_bearersOf 3 = .ok (.istore_n 3, 1) := by decide +kernel
theorem dX12_bearersOf_4 : decode cX12_bearersOf 4 = .ok (.iload_n 3, 1) := by decide +kernel
theorem dX12_bearersOf_5 : decode cX12_bearersOf 5 = .ok (.aload_n 0, 1) := by decide +kernel
theorem dX12_bearersOf_6 : decode cX12_bearersOf 6 = .ok (.invokevirtual 46, 3) := by decide +kernel
theorem dX12_bearersOf_9 : decode cX12_bearersOf 9 = .ok (.if_icmp .ge 29, 3) := by decide +kernel
theorem dX12_bearersOf_12 : decode cX12_bearersOf 12 = .ok (.iload_n 2, 1) := by decide +kernel
theorem dX12_bearersOf_13 : decode cX12_bearersOf 13 = .ok (.aload_n 0, 1) := by decide +kernel
theorem dX12_bearersOf_14 : decode cX12_bearersOf 14 = .ok (.getfield 27, 3) := by decide +kernel
theorem dX12_bearersOf_17 : decode cX12_bearersOf 17 = .ok (.iload_n 3, 1) := by decide +kernel
theorem dX12_bearersOf_18 : decode cX12_bearersOf 18 = .ok (.iaload, 1) := by decide +kernel
theorem dX12_bearersOf_19 : decode cX12_bearersOf 19 = .ok (.iload_n 1, 1) := by decide +kernel
theorem dX12_bearersOf_20 : decode cX12_bearersOf 20 = .ok (.if_icmp .ne 9, 3) := by decide +kernel
theorem dX12_bearersOf_23 : decode cX12_bearersOf 23 = .ok (.iconst 1, 1) := by decide +kernel
theorem dX12_bearersOf_24 : decode cX12_bearersOf 24 = .ok (.iload_n 3, 1) := by decide +kernel
theorem dX12_bearersOf_25 : decode cX12_bearersOf 25 = .ok (.ishl, 1) := by decide +kernel
theorem dX12_bearersOf_26 : decode cX12_bearersOf 26 = .ok (.goto 4, 3) := by decide +kernel
theorem dX12_bearersOf_29 : decode cX12_bearersOf 29 = .ok (.iconst 0, 1) := by decide +kernel
theorem dX12_bearersOf_30 : decode cX12_bearersOf 30 = .ok (.ior, 1) := by decide +kernel
theorem dX12_bearersOf_31 : decode cX12_bearersOf 31 = .ok (.istore_n 2, 1) := by decide +kernel
theorem dX12_bearersOf_32 : decode cX12_bearersOf 32 = .ok (.iinc 3 1, 3) := by decide +kernel
theorem dX12_bearersOf_35 : decode cX12_bearersOf 35 = .ok (.goto (-31), 3) := by decide +kernel
theorem dX12_bearersOf_38 : decode cX12_bearersOf 38 = .ok (.iload_n 2, 1) := by decide +kernel
theorem dX12_bearersOf_39 : decode cX12_bearersOf 39 = .ok (.ireturn, 1) := by decide +kernel
theorem dX12_turning_0 : decode cX12_turning 0 = .ok (.aload_n 0, 1) := by decide +kernel
theorem dX12_turning_1 : decode cX12_turning 1 = .ok (.iload_n 1, 1) := by decide +kernel
theorem dX12_turning_2 : decode cX12_turning 2 = .ok (.invokevirtual 75, 3) := by decide +kernel
theorem dX12_turning_5 : decode cX12_turning 5 = .ok (.istore_n 3, 1) := by decide +kernel
theorem dX12_turning_6 : decode cX12_turning 6 = .ok (.iconst 0, 1) := by decide +kernel
theorem dX12_turning_7 : decode cX12_turning 7 = .ok (.istore 4, 2) := by decide +kernel
theorem dX12_turning_9 : decode cX12_turning 9 = .ok (.iconst 0, 1) := by decide +kernel
theorem dX12_turning_10 : decode cX12_turning 10 = .ok (.istore 5, 2) := by decide +kernel
theorem dX12_turning_12 : decode cX12_turning 12 = .ok (.iload 5, 2) := by decide +kernel
theorem dX12_turning_14 : decode cX12_turning 14 = .ok (.aload_n 0, 1) := by decide +kernel
theorem dX12_turning_15 : decode cX12_turning 15 = .ok (.invokevirtual 46, 3) := by decide +kernel
theorem dX12_turning_18 : decode cX12_turning 18 = .ok (.if_icmp .ge 77, 3) := by decide +kernel
theorem dX12_turning_21 : decode cX12_turning 21 = .ok (.aload_n 0, 1) := by decide +kernel
theorem dX12_turning_22 : decode cX12_turning 22 = .ok (.getfield 7, 3) := by decide +kernel
theorem dX12_turning_25 : decode cX12_turning 25 = .ok (.bipush 19, 2) := by decide +kernel
theorem dX12_turning_27 : decode cX12_turning 27 = .ok (.iload 5, 2) := by decide +kernel
theorem dX12_turning_29 : decode cX12_turning 29 = .ok (.iadd, 1) := by decide +kernel
theorem dX12_turning_30 : decode cX12_turning 30 = .ok (.iaload, 1) := by decide +kernel
theorem dX12_turning_31 : decode cX12_turning 31 = .ok (.aload_n 0, 1) := by decide +kernel
theorem dX12_turning_32 : decode cX12_turning 32 = .ok (.getfield 7, 3) := by decide +kernel
theorem dX12_turning_35 : decode cX12_turning 35 = .ok (.bipush 12, 2) := by decide +kernel
theorem dX12_turning_37 : decode cX12_turning 37 = .ok (.iload 5, 2) := by decide +kernel
theorem dX12_turning_39 : decode cX12_turning 39 = .ok (.iadd, 1) := by decide +kernel
theorem dX12_turning_40 : decode cX12_turning 40 = .ok (.iaload, 1) := by decide +kernel
theorem dX12_turning_41 : decode cX12_turning 41 = .ok (.iload_n 2, 1) := by decide +kernel
theorem dX12_turning_42 : decode cX12_turning 42 = .ok (.invokestatic 78, 3) := by decide +kernel
theorem dX12_turning_45 : decode cX12_turning 45 = .ok (.iload_n 3, 1) := by decide +kernel
theorem dX12_turning_46 : decode cX12_turning 46 = .ok (.iload 5, 2) := by decide +kernel
theorem dX12_turning_48 : decode cX12_turning 48 = .ok (.invokestatic 82, 3) := by decide +kernel
theorem dX12_turning_51 : decode cX12_turning 51 = .ok (.iload_n 3, 1) := by decide +kernel
theorem dX12_turning_52 : decode cX12_turning 52 = .ok (.ifCond .ne 7, 3) := by decide +kernel
theorem dX12_turning_55 : decode cX12_turning 55 = .ok (.iconst 1, 1) := by decide +kernel
theorem dX12_turning_56 : decode cX12_turning 56 = .ok (.goto 4, 3) := by decide +kernel
theorem dX12_turning_59 : decode cX12_turning 59 = .ok (.iconst 0, 1) := by decide +kernel
theorem dX12_turning_60 : decode cX12_turning 60 = .ok (.aload_n 0, 1) := by decide +kernel
theorem dX12_turning_61 : decode cX12_turning 61 = .ok (.getfield 7, 3) := by decide +kernel
theorem dX12_turning_64 : decode cX12_turning 64 = .ok (.iconst 1, 1) := by decide +kernel
theorem dX12_turning_65 : decode cX12_turning 65 = .ok (.iaload, 1) := by decide +kernel
theorem dX12_turning_66 : decode cX12_turning 66 = .ok (.invokestatic 86, 3) := by decide +kernel
theorem dX12_turning_69 : decode cX12_turning 69 = .ok (.istore 6, 2) := by decide +kernel
theorem dX12_turning_71 : decode cX12_turning 71 = .ok (.iload 4, 2) := by decide +kernel
theorem dX12_turning_73 : decode cX12_turning 73 = .ok (.iload 6, 2) := by decide +kernel
theorem dX12_turning_75 : decode cX12_turning 75 = .ok (.ifCond .eq 10, 3) := by decide +kernel
theorem dX12_turning_78 : decode cX12_turning 78 = .ok (.iconst 1, 1) := by decide +kernel
theorem dX12_turning_79 : decode cX12_turning 79 = .ok (.iload 5, 2) := by decide +kernel
theorem dX12_turning_81 : decode cX12_turning 81 = .ok (.ishl, 1) := by decide +kernel
theorem dX12_turning_82 : decode cX12_turning 82 = .ok (.goto 4, 3) := by decide +kernel
theorem dX12_turning_85 : decode cX12_turning 85 = .ok (.iconst 0, 1) := by decide +kernel
theorem dX12_turning_86 : decode cX12_turning 86 = .ok (.ior, 1) := by decide +kernel
theorem dX12_turning_87 : decode cX12_turning 87 = .ok (.istore 4, 2) := by decide +kernel
theorem dX12_turning_89 : decode cX12_turning 89 = .ok (.iinc 5 1, 3) := by decide +kernel
theorem dX12_turning_92 : decode cX12_turning 92 = .ok (.goto (-80), 3) := by decide +kernel
theorem dX12_turning_95 : decode cX12_turning 95 = .ok (.iload 4, 2) := by decide +kernel
theorem dX12_turning_97 : decode cX12_turning 97 = .ok (.ireturn, 1) := by decide +kernel
theorem dX12_goTurn_0 : decode cX12_goTurn 0 = .ok (.iconst 0, 1) := by decide +kernel
theorem dX12_goTurn_1 : decode cX12_goTurn 1 = .ok (.istore_n 3, 1) := by decide +kernel
theorem dX12_goTurn_2 : decode cX12_goTurn 2 = .ok (.iload_n 3, 1) := by decide +kernel
theorem dX12_goTurn_3 : decode cX12_goTurn 3 = .ok (.aload_n 0, 1) := by decide +kernel
theorem dX12_goTurn_4 : decode cX12_goTurn 4 = .ok (.invokevirtual 46, 3) := by decide +kernel
theorem dX12_goTurn_7 : decode cX12_goTurn 7 = .ok (.if_icmp .ge 51, 3) := by decide +kernel
theorem dX12_goTurn_10 : decode cX12_goTurn 10 = .ok (.iload_n 2, 1) := by decide +kernel
theorem dX12_goTurn_11 : decode cX12_goTurn 11 = .ok (.ifCond .eq 47, 3) := by decide +kernel
theorem dX12_goTurn_14 : decode cX12_goTurn 14 = .ok (.aload_n 0, 1) := by decide +kernel
theorem dX12_goTurn_15 : decode cX12_goTurn 15 = .ok (.getfield 27, 3) := by decide +kernel
theorem dX12_goTurn_18 : decode cX12_goTurn 18 = .ok (.iload_n 3, 1) := by decide +kernel
theorem dX12_goTurn_19 : decode cX12_goTurn 19 = .ok (.iload_n 2, 1) := by decide +kernel
theorem dX12_goTurn_20 : decode cX12_goTurn 20 = .ok (.iload_n 3, 1) := by decide +kernel
theorem dX12_goTurn_21 : decode cX12_goTurn 21 = .ok (.invokestatic 82, 3) := by decide +kernel
theorem dX12_goTurn_24 : decode cX12_goTurn 24 = .ok (.ifCond .eq 7, 3) := by decide +kernel
theorem dX12_goTurn_27 : decode cX12_goTurn 27 = .ok (.iload_n 1, 1) := by decide +kernel
theorem dX12_goTurn_28 : decode cX12_goTurn 28 = .ok (.goto 23, 3) := by decide +kernel
theorem dX12_goTurn_31 : decode cX12_goTurn 31 = .ok (.aload_n 0, 1) := by decide +kernel
theorem dX12_goTurn_32 : decode cX12_goTurn 32 = .ok (.getfield 27, 3) := by decide +kernel
theorem dX12_goTurn_35 : decode cX12_goTurn 35 = .ok (.iload_n 3, 1) := by decide +kernel
theorem dX12_goTurn_36 : decode cX12_goTurn 36 = .ok (.iaload, 1) := by decide +kernel
theorem dX12_goTurn_37 : decode cX12_goTurn 37 = .ok (.iload_n 1, 1) := by decide +kernel
theorem dX12_goTurn_38 : decode cX12_goTurn 38 = .ok (.if_icmp .ne 7, 3) := by decide +kernel
theorem dX12_goTurn_41 : decode cX12_goTurn 41 = .ok (.iconst (-1), 1) := by decide +kernel
theorem dX12_goTurn_42 : decode cX12_goTurn 42 = .ok (.goto 9, 3) := by decide +kernel
theorem dX12_goTurn_45 : decode cX12_goTurn 45 = .ok (.aload_n 0, 1) := by decide +kernel
theorem dX12_goTurn_46 : decode cX12_goTurn 46 = .ok (.getfield 27, 3) := by decide +kernel
theorem dX12_goTurn_49 : decode cX12_goTurn 49 = .ok (.iload_n 3, 1) := by decide +kernel
theorem dX12_goTurn_50 : decode cX12_goTurn 50 = .ok (.iaload, 1) := by decide +kernel
theorem dX12_goTurn_51 : decode cX12_goTurn 51 = .ok (.iastore, 1) := by decide +kernel
theorem dX12_goTurn_52 : decode cX12_goTurn 52 = .ok (.iinc 3 1, 3) := by decide +kernel
theorem dX12_goTurn_55 : decode cX12_goTurn 55 = .ok (.goto (-53), 3) := by decide +kernel
theorem dX12_goTurn_58 : decode cX12_goTurn 58 = .ok (.return_, 1) := by decide +kernel
theorem dX12_goCall_0 : decode cX12_goCall 0 = .ok (.aload_n 0, 1) := by decide +kernel
theorem dX12_goCall_1 : decode cX12_goCall 1 = .ok (.iload_n 1, 1) := by decide +kernel
theorem dX12_goCall_2 : decode cX12_goCall 2 = .ok (.iload_n 2, 1) := by decide +kernel
theorem dX12_goCall_3 : decode cX12_goCall 3 = .ok (.invokevirtual 90, 3) := by decide +kernel
theorem dX12_goCall_6 : decode cX12_goCall 6 = .ok (.istore_n 3, 1) := by decide +kernel
theorem dX12_goCall_7 : decode cX12_goCall 7 = .ok (.aload_n 0, 1) := by decide +kernel
theorem dX12_goCall_8 : decode cX12_goCall 8 = .ok (.iload_n 1, 1) := by decide +kernel
theorem dX12_goCall_9 : decode cX12_goCall 9 = .ok (.iload_n 3, 1) := by decide +kernel
theorem dX12_goCall_10 : decode cX12_goCall 10 = .ok (.invokevirtual 93, 3) := by decide +kernel
theorem dX12_goCall_13 : decode cX12_goCall 13 = .ok (.iload_n 3, 1) := by decide +kernel
theorem dX12_goCall_14 : decode cX12_goCall 14 = .ok (.ireturn, 1) := by decide +kernel
theorem dX12_ownNow_0 : decode cX12_ownNow 0 = .ok (.iconst 0, 1) := by decide +kernel
theorem dX12_ownNow_1 : decode cX12_ownNow 1 = .ok (.istore_n 1, 1) := by decide +kernel
theorem dX12_ownNow_2 : decode cX12_ownNow 2 = .ok (.iconst 0, 1) := by decide +kernel
theorem dX12_ownNow_3 : decode cX12_ownNow 3 = .ok (.istore_n 2, 1) := by decide +kernel
theorem dX12_ownNow_4 : decode cX12_ownNow 4 = .ok (.iload_n 2, 1) := by decide +kernel
theorem dX12_ownNow_5 : decode cX12_ownNow 5 = .ok (.aload_n 0, 1) := by decide +kernel
theorem dX12_ownNow_6 : decode cX12_ownNow 6 = .ok (.invokevirtual 46, 3) := by decide +kernel
theorem dX12_ownNow_9 : decode cX12_ownNow 9 = .ok (.if_icmp .ge 27, 3) := by decide +kernel
theorem dX12_ownNow_12 : decode cX12_ownNow 12 = .ok (.iload_n 1, 1) := by decide +kernel
theorem dX12_ownNow_13 : decode cX12_ownNow 13 = .ok (.aload_n 0, 1) := by decide +kernel
theorem dX12_ownNow_14 : decode cX12_ownNow 14 = .ok (.getfield 27, 3) := by decide +kernel
theorem dX12_ownNow_17 : decode cX12_ownNow 17 = .ok (.iload_n 2, 1) := by decide +kernel
theorem dX12_ownNow_18 : decode cX12_ownNow 18 = .ok (.iaload, 1) := by decide +kernel
theorem dX12_ownNow_19 : decode cX12_ownNow 19 = .ok (.iload_n 2, 1) := by decide +kernel
theorem dX12_ownNow_20 : decode cX12_ownNow 20 = .ok (.if_icmp .ne 7, 3) := by decide +kernel
theorem dX12_ownNow_23 : decode cX12_ownNow 23 = .ok (.iconst 1, 1) := by decide +kernel
theorem dX12_ownNow_24 : decode cX12_ownNow 24 = .ok (.goto 4, 3) := by decide +kernel
theorem dX12_ownNow_27 : decode cX12_ownNow 27 = .ok (.iconst 0, 1) := by decide +kernel
theorem dX12_ownNow_28 : decode cX12_ownNow 28 = .ok (.iadd, 1) := by decide +kernel
theorem dX12_ownNow_29 : decode cX12_ownNow 29 = .ok (.istore_n 1, 1) := by decide +kernel
theorem dX12_ownNow_30 : decode cX12_ownNow 30 = .ok (.iinc 2 1, 3) := by decide +kernel
theorem dX12_ownNow_33 : decode cX12_ownNow 33 = .ok (.goto (-29), 3) := by decide +kernel
theorem dX12_ownNow_36 : decode cX12_ownNow 36 = .ok (.iload_n 1, 1) := by decide +kernel
theorem dX12_ownNow_37 : decode cX12_ownNow 37 = .ok (.ireturn, 1) := by decide +kernel
theorem dX12_keep_0 : decode cX12_keep 0 = .ok (.aload_n 0, 1) := by decide +kernel
theorem dX12_keep_1 : decode cX12_keep 1 = .ok (.getfield 7, 3) := by decide +kernel
theorem dX12_keep_4 : decode cX12_keep 4 = .ok (.iconst 4, 1) := by decide +kernel
theorem dX12_keep_5 : decode cX12_keep 5 = .ok (.iaload, 1) := by decide +kernel
theorem dX12_keep_6 : decode cX12_keep 6 = .ok (.bipush 8, 2) := by decide +kernel
theorem dX12_keep_8 : decode cX12_keep 8 = .ok (.if_icmp .ne 43, 3) := by decide +kernel
theorem dX12_keep_11 : decode cX12_keep 11 = .ok (.iconst 0, 1) := by decide +kernel
theorem dX12_keep_12 : decode cX12_keep 12 = .ok (.istore_n 1, 1) := by decide +kernel
theorem dX12_keep_13 : decode cX12_keep 13 = .ok (.iload_n 1, 1) := by decide +kernel
theorem dX12_keep_14 : decode cX12_keep 14 = .ok (.bipush 105, 2) := by decide +kernel
theorem dX12_keep_16 : decode cX12_keep 16 = .ok (.if_icmp .ge 27, 3) := by decide +kernel
theorem dX12_keep_19 : decode cX12_keep 19 = .ok (.aload_n 0, 1) := by decide +kernel
theorem dX12_keep_20 : decode cX12_keep 20 = .ok (.getfield 7, 3) := by decide +kernel
theorem dX12_keep_23 : decode cX12_keep 23 = .ok (.bipush 68, 2) := by decide +kernel
theorem dX12_keep_25 : decode cX12_keep 25 = .ok (.iload_n 1, 1) := by decide +kernel
theorem dX12_keep_26 : decode cX12_keep 26 = .ok (.iadd, 1) := by decide +kernel
theorem dX12_keep_27 : decode cX12_keep 27 = .ok (.aload_n 0, 1) := by decide +kernel
theorem dX12_keep_28 : decode cX12_keep 28 = .ok (.getfield 7, 3) := by decide +kernel
theorem dX12_keep_31 : decode cX12_keep 31 = .ok (.bipush 83, 2) := by decide +kernel
theorem dX12_keep_33 : decode cX12_keep 33 = .ok (.iload_n 1, 1) := by decide +kernel
theorem dX12_keep_34 : decode cX12_keep 34 = .ok (.iadd, 1) := by decide +kernel
theorem dX12_keep_35 : decode cX12_keep 35 = .ok (.iaload, 1) := by decide +kernel
theorem dX12_keep_36 : decode cX12_keep 36 = .ok (.iastore, 1) := by decide +kernel
theorem dX12_keep_37 : decode cX12_keep 37 = .ok (.iinc 1 1, 3) := by decide +kernel
theorem dX12_keep_40 : decode cX12_keep 40 = .ok (.goto (-27), 3) := by decide +kernel
theorem dX12_keep_43 : decode cX12_keep 43 = .ok (.aload_n 0, 1) := by decide +kernel
theorem dX12_keep_44 : decode cX12_keep 44 = .ok (.getfield 7, 3) := by decide +kernel
theorem dX12_keep_47 : decode cX12_keep 47 = .ok (.iconst 4, 1) := by decide +kernel
theorem dX12_keep_48 : decode cX12_keep 48 = .ok (.bipush 7, 2) := by decide +kernel
theorem dX12_keep_50 : decode cX12_keep 50 = .ok (.iastore, 1) := by decide +kernel
theorem dX12_keep_51 : decode cX12_keep 51 = .ok (.bipush 68, 2) := by decide +kernel
theorem dX12_keep_53 : decode cX12_keep 53 = .ok (.bipush 15, 2) := by decide +kernel
theorem dX12_keep_55 : decode cX12_keep 55 = .ok (.aload_n 0, 1) := by decide +kernel
theorem dX12_keep_56 : decode cX12_keep 56 = .ok (.getfield 7, 3) := by decide +kernel
theorem dX12_keep_59 : decode cX12_keep 59 = .ok (.iconst 4, 1) := by decide +kernel
theorem dX12_keep_60 : decode cX12_keep 60 = .ok (.iaload, 1) := by decide +kernel
theorem dX12_keep_61 : decode cX12_keep 61 = .ok (.imul, 1) := by decide +kernel
theorem dX12_keep_62 : decode cX12_keep 62 = .ok (.iadd, 1) := by decide +kernel
theorem dX12_keep_63 : decode cX12_keep 63 = .ok (.istore_n 1, 1) := by decide +kernel
theorem dX12_keep_64 : decode cX12_keep 64 = .ok (.iconst 0, 1) := by decide +kernel
theorem dX12_keep_65 : decode cX12_keep 65 = .ok (.istore_n 2, 1) := by decide +kernel
theorem dX12_keep_66 : decode cX12_keep 66 = .ok (.iload_n 2, 1) := by decide +kernel
theorem dX12_keep_67 : decode cX12_keep 67 = .ok (.bipush 14, 2) := by decide +kernel
theorem dX12_keep_69 : decode cX12_keep 69 = .ok (.if_icmp .ge 25, 3) := by decide +kernel
theorem dX12_keep_72 : decode cX12_keep 72 = .ok (.aload_n 0, 1) := by decide +kernel
theorem dX12_keep_73 : decode cX12_keep 73 = .ok (.getfield 7, 3) := by decide +kernel
theorem dX12_keep_76 : decode cX12_keep 76 = .ok (.iload_n 1, 1) := by decide +kernel
theorem dX12_keep_77 : decode cX12_keep 77 = .ok (.iload_n 2, 1) := by decide +kernel
theorem dX12_keep_78 : decode cX12_keep 78 = .ok (.iadd, 1) := by decide +kernel
theorem dX12_keep_79 : decode cX12_keep 79 = .ok (.aload_n 0, 1) := by decide +kernel
theorem dX12_keep_80 : decode cX12_keep 80 = .ok (.getfield 7, 3) := by decide +kernel
theorem dX12_keep_83 : decode cX12_keep 83 = .ok (.iconst 5, 1) := by decide +kernel
theorem dX12_keep_84 : decode cX12_keep 84 = .ok (.iload_n 2, 1) := by decide +kernel
theorem dX12_keep_85 : decode cX12_keep 85 = .ok (.iadd, 1) := by decide +kernel
theorem dX12_keep_86 : decode cX12_keep 86 = .ok (.iaload, 1) := by decide +kernel
theorem dX12_keep_87 : decode cX12_keep 87 = .ok (.iastore, 1) := by decide +kernel
theorem dX12_keep_88 : decode cX12_keep 88 = .ok (.iinc 2 1, 3) := by decide +kernel
theorem dX12_keep_91 : decode cX12_keep 91 = .ok (.goto (-25), 3) := by decide +kernel
theorem dX12_keep_94 : decode cX12_keep 94 = .ok (.aload_n 0, 1) := by decide +kernel
theorem dX12_keep_95 : decode cX12_keep 95 = .ok (.getfield 7, 3) := by decide +kernel
theorem dX12_keep_98 : decode cX12_keep 98 = .ok (.iload_n 1, 1) := by decide +kernel
theorem dX12_keep_99 : decode cX12_keep 99 = .ok (.bipush 14, 2) := by decide +kernel
theorem dX12_keep_101 : decode cX12_keep 101 = .ok (.iadd, 1) := by decide +kernel
theorem dX12_keep_102 : decode cX12_keep 102 = .ok (.aload_n 0, 1) := by decide +kernel
theorem dX12_keep_103 : decode cX12_keep 103 = .ok (.getfield 7, 3) := by decide +kernel
theorem dX12_keep_106 : decode cX12_keep 106 = .ok (.iconst 1, 1) := by decide +kernel
theorem dX12_keep_107 : decode cX12_keep 107 = .ok (.iaload, 1) := by decide +kernel
theorem dX12_keep_108 : decode cX12_keep 108 = .ok (.iastore, 1) := by decide +kernel
theorem dX12_keep_109 : decode cX12_keep 109 = .ok (.aload_n 0, 1) := by decide +kernel
theorem dX12_keep_110 : decode cX12_keep 110 = .ok (.getfield 7, 3) := by decide +kernel
theorem dX12_keep_113 : decode cX12_keep 113 = .ok (.iconst 4, 1) := by decide +kernel
theorem dX12_keep_114 : decode cX12_keep 114 = .ok (.dup2, 1) := by decide +kernel
theorem dX12_keep_115 : decode cX12_keep 115 = .ok (.iaload, 1) := by decide +kernel
theorem dX12_keep_116 : decode cX12_keep 116 = .ok (.iconst 1, 1) := by decide +kernel
theorem dX12_keep_117 : decode cX12_keep 117 = .ok (.iadd, 1) := by decide +kernel
theorem dX12_keep_118 : decode cX12_keep 118 = .ok (.iastore, 1) := by decide +kernel
theorem dX12_keep_119 : decode cX12_keep 119 = .ok (.return_, 1) := by decide +kernel
theorem dX12_call_0 : decode cX12_call 0 = .ok (.aload_n 0, 1) := by decide +kernel
theorem dX12_call_1 : decode cX12_call 1 = .ok (.iload_n 1, 1) := by decide +kernel
theorem dX12_call_2 : decode cX12_call 2 = .ok (.invokevirtual 97, 3) := by decide +kernel
theorem dX12_call_5 : decode cX12_call 5 = .ok (.ifCond .eq 10, 3) := by decide +kernel
theorem dX12_call_8 : decode cX12_call 8 = .ok (.iload_n 2, 1) := by decide +kernel
theorem dX12_call_9 : decode cX12_call 9 = .ok (.invokestatic 64, 3) := by decide +kernel
theorem dX12_call_12 : decode cX12_call 12 = .ok (.ifCond .ne 10, 3) := by decide +kernel
theorem dX12_call_15 : decode cX12_call 15 = .ok (.aload_n 0, 1) := by decide +kernel
theorem dX12_call_16 : decode cX12_call 16 = .ok (.bipush (-2), 2) := by decide +kernel
theorem dX12_call_18 : decode cX12_call 18 = .ok (.invokevirtual 58, 3) := by decide +kernel
theorem dX12_call_21 : decode cX12_call 21 = .ok (.ireturn, 1) := by decide +kernel
theorem dX12_call_22 : decode cX12_call 22 = .ok (.aload_n 0, 1) := by decide +kernel
theorem dX12_call_23 : decode cX12_call 23 = .ok (.invokevirtual 100, 3) := by decide +kernel
theorem dX12_call_26 : decode cX12_call 26 = .ok (.aload_n 0, 1) := by decide +kernel
theorem dX12_call_27 : decode cX12_call 27 = .ok (.invokevirtual 103, 3) := by decide +kernel
theorem dX12_call_30 : decode cX12_call 30 = .ok (.aload_n 0, 1) := by decide +kernel
theorem dX12_call_31 : decode cX12_call 31 = .ok (.iload_n 1, 1) := by decide +kernel
theorem dX12_call_32 : decode cX12_call 32 = .ok (.iload_n 2, 1) := by decide +kernel
theorem dX12_call_33 : decode cX12_call 33 = .ok (.invokevirtual 106, 3) := by decide +kernel
theorem dX12_call_36 : decode cX12_call 36 = .ok (.istore_n 3, 1) := by decide +kernel
theorem dX12_call_37 : decode cX12_call 37 = .ok (.iconst 0, 1) := by decide +kernel
theorem dX12_call_38 : decode cX12_call 38 = .ok (.istore 4, 2) := by decide +kernel
theorem dX12_call_40 : decode cX12_call 40 = .ok (.iload 4, 2) := by decide +kernel
theorem dX12_call_42 : decode cX12_call 42 = .ok (.aload_n 0, 1) := by decide +kernel
theorem dX12_call_43 : decode cX12_call 43 = .ok (.invokevirtual 46, 3) := by decide +kernel
theorem dX12_call_46 : decode cX12_call 46 = .ok (.if_icmp .ge 25, 3) := by decide +kernel
theorem dX12_call_49 : decode cX12_call 49 = .ok (.aload_n 0, 1) := by decide +kernel
theorem dX12_call_50 : decode cX12_call 50 = .ok (.getfield 7, 3) := by decide +kernel
theorem dX12_call_53 : decode cX12_call 53 = .ok (.iconst 5, 1) := by decide +kernel
theorem dX12_call_54 : decode cX12_call 54 = .ok (.iload 4, 2) := by decide +kernel
theorem dX12_call_56 : decode cX12_call 56 = .ok (.iadd, 1) := by decide +kernel
theorem dX12_call_57 : decode cX12_call 57 = .ok (.aload_n 0, 1) := by decide +kernel
theorem dX12_call_58 : decode cX12_call 58 = .ok (.getfield 27, 3) := by decide +kernel
theorem dX12_call_61 : decode cX12_call 61 = .ok (.iload 4, 2) := by decide +kernel
theorem dX12_call_63 : decode cX12_call 63 = .ok (.iaload, 1) := by decide +kernel
theorem dX12_call_64 : decode cX12_call 64 = .ok (.iastore, 1) := by decide +kernel
theorem dX12_call_65 : decode cX12_call 65 = .ok (.iinc 4 1, 3) := by decide +kernel
theorem dX12_call_68 : decode cX12_call 68 = .ok (.goto (-28), 3) := by decide +kernel
theorem dX12_call_71 : decode cX12_call 71 = .ok (.iload_n 3, 1) := by decide +kernel
theorem dX12_call_72 : decode cX12_call 72 = .ok (.ireturn, 1) := by decide +kernel
theorem dX12_goes_0 : decode cX12_goes 0 = .ok (.aload_n 0, 1) := by decide +kernel
theorem dX12_goes_1 : decode cX12_goes 1 = .ok (.iload_n 1, 1) := by decide +kernel
theorem dX12_goes_2 : decode cX12_goes 2 = .ok (.invokevirtual 97, 3) := by decide +kernel
theorem dX12_goes_5 : decode cX12_goes 5 = .ok (.ifCond .eq 10, 3) := by decide +kernel
theorem dX12_goes_8 : decode cX12_goes 8 = .ok (.iload_n 2, 1) := by decide +kernel
theorem dX12_goes_9 : decode cX12_goes 9 = .ok (.invokestatic 64, 3) := by decide +kernel
theorem dX12_goes_12 : decode cX12_goes 12 = .ok (.ifCond .ne 10, 3) := by decide +kernel
theorem dX12_goes_15 : decode cX12_goes 15 = .ok (.aload_n 0, 1) := by decide +kernel
theorem dX12_goes_16 : decode cX12_goes 16 = .ok (.bipush (-2), 2) := by decide +kernel
theorem dX12_goes_18 : decode cX12_goes 18 = .ok (.invokevirtual 58, 3) := by decide +kernel
theorem dX12_goes_21 : decode cX12_goes 21 = .ok (.ireturn, 1) := by decide +kernel
theorem dX12_goes_22 : decode cX12_goes 22 = .ok (.aload_n 0, 1) := by decide +kernel
theorem dX12_goes_23 : decode cX12_goes 23 = .ok (.getfield 7, 3) := by decide +kernel
theorem dX12_goes_26 : decode cX12_goes 26 = .ok (.bipush 12, 2) := by decide +kernel
theorem dX12_goes_28 : decode cX12_goes 28 = .ok (.iload_n 1, 1) := by decide +kernel
theorem dX12_goes_29 : decode cX12_goes 29 = .ok (.iadd, 1) := by decide +kernel
theorem dX12_goes_30 : decode cX12_goes 30 = .ok (.iaload, 1) := by decide +kernel
theorem dX12_goes_31 : decode cX12_goes 31 = .ok (.istore_n 3, 1) := by decide +kernel
theorem dX12_goes_32 : decode cX12_goes 32 = .ok (.aload_n 0, 1) := by decide +kernel
theorem dX12_goes_33 : decode cX12_goes 33 = .ok (.invokevirtual 100, 3) := by decide +kernel
theorem dX12_goes_36 : decode cX12_goes 36 = .ok (.aload_n 0, 1) := by decide +kernel
theorem dX12_goes_37 : decode cX12_goes 37 = .ok (.getfield 7, 3) := by decide +kernel
theorem dX12_goes_40 : decode cX12_goes 40 = .ok (.bipush 12, 2) := by decide +kernel
theorem dX12_goes_42 : decode cX12_goes 42 = .ok (.iload_n 1, 1) := by decide +kernel
theorem dX12_goes_43 : decode cX12_goes 43 = .ok (.iadd, 1) := by decide +kernel
theorem dX12_goes_44 : decode cX12_goes 44 = .ok (.iload_n 2, 1) := by decide +kernel
theorem dX12_goes_45 : decode cX12_goes 45 = .ok (.iastore, 1) := by decide +kernel
theorem dX12_goes_46 : decode cX12_goes 46 = .ok (.iload_n 3, 1) := by decide +kernel
theorem dX12_goes_47 : decode cX12_goes 47 = .ok (.ireturn, 1) := by decide +kernel
theorem dX12_day_0 : decode cX12_day 0 = .ok (.aload_n 0, 1) := by decide +kernel
theorem dX12_day_1 : decode cX12_day 1 = .ok (.invokevirtual 100, 3) := by decide +kernel
theorem dX12_day_4 : decode cX12_day 4 = .ok (.aload_n 0, 1) := by decide +kernel
theorem dX12_day_5 : decode cX12_day 5 = .ok (.getfield 7, 3) := by decide +kernel
theorem dX12_day_8 : decode cX12_day 8 = .ok (.iconst 1, 1) := by decide +kernel
theorem dX12_day_9 : decode cX12_day 9 = .ok (.dup2, 1) := by decide +kernel
theorem dX12_day_10 : decode cX12_day 10 = .ok (.iaload, 1) := by decide +kernel
theorem dX12_day_11 : decode cX12_day 11 = .ok (.iconst 1, 1) := by decide +kernel
theorem dX12_day_12 : decode cX12_day 12 = .ok (.iadd, 1) := by decide +kernel
theorem dX12_day_13 : decode cX12_day 13 = .ok (.iastore, 1) := by decide +kernel
theorem dX12_day_14 : decode cX12_day 14 = .ok (.aload_n 0, 1) := by decide +kernel
theorem dX12_day_15 : decode cX12_day 15 = .ok (.getfield 7, 3) := by decide +kernel
theorem dX12_day_18 : decode cX12_day 18 = .ok (.iconst 1, 1) := by decide +kernel
theorem dX12_day_19 : decode cX12_day 19 = .ok (.iaload, 1) := by decide +kernel
theorem dX12_day_20 : decode cX12_day 20 = .ok (.ireturn, 1) := by decide +kernel
theorem dX12_undo_0 : decode cX12_undo 0 = .ok (.aload_n 0, 1) := by decide +kernel
theorem dX12_undo_1 : decode cX12_undo 1 = .ok (.getfield 7, 3) := by decide +kernel
theorem dX12_undo_4 : decode cX12_undo 4 = .ok (.iconst 4, 1) := by decide +kernel
theorem dX12_undo_5 : decode cX12_undo 5 = .ok (.iaload, 1) := by decide +kernel
theorem dX12_undo_6 : decode cX12_undo 6 = .ok (.ifCond .ne 8, 3) := by decide +kernel
theorem dX12_undo_9 : decode cX12_undo 9 = .ok (.aload_n 0, 1) := by decide +kernel
theorem dX12_undo_10 : decode cX12_undo 10 = .ok (.invokevirtual 109, 3) := by decide +kernel
theorem dX12_undo_13 : decode cX12_undo 13 = .ok (.ireturn, 1) := by decide +kernel
theorem dX12_undo_14 : decode cX12_undo 14 = .ok (.aload_n 0, 1) := by decide +kernel
theorem dX12_undo_15 : decode cX12_undo 15 = .ok (.getfield 7, 3) := by decide +kernel
theorem dX12_undo_18 : decode cX12_undo 18 = .ok (.iconst 4, 1) := by decide +kernel
theorem dX12_undo_19 : decode cX12_undo 19 = .ok (.dup2, 1) := by decide +kernel
theorem dX12_undo_20 : decode cX12_undo 20 = .ok (.iaload, 1) := by decide +kernel
theorem dX12_undo_21 : decode cX12_undo 21 = .ok (.iconst 1, 1) := by decide +kernel
theorem dX12_undo_22 : decode cX12_undo 22 = .ok (.isub, 1) := by decide +kernel
theorem dX12_undo_23 : decode cX12_undo 23 = .ok (.iastore, 1) := by decide +kernel
theorem dX12_undo_24 : decode cX12_undo 24 = .ok (.bipush 68, 2) := by decide +kernel
theorem dX12_undo_26 : decode cX12_undo 26 = .ok (.bipush 15, 2) := by decide +kernel
theorem dX12_undo_28 : decode cX12_undo 28 = .ok (.aload_n 0, 1) := by decide +kernel
theorem dX12_undo_29 : decode cX12_undo 29 = .ok (.getfield 7, 3) := by decide +kernel
theorem dX12_undo_32 : decode cX12_undo 32 = .ok (.iconst 4, 1) := by decide +kernel
theorem dX12_undo_33 : decode cX12_undo 33 = .ok (.iaload, 1) := by decide +kernel
theorem dX12_undo_34 : decode cX12_undo 34 = .ok (.imul, 1) := by decide +kernel
theorem dX12_undo_35 : decode cX12_undo 35 = .ok (.iadd, 1) := by decide +kernel
theorem dX12_undo_36 : decode cX12_undo 36 = .ok (.istore_n 1, 1) := by decide +kernel
theorem dX12_undo_37 : decode cX12_undo 37 = .ok (.iconst 0, 1) := by decide +kernel
theorem dX12_undo_38 : decode cX12_undo 38 = .ok (.istore_n 2, 1) := by decide +kernel
theorem dX12_undo_39 : decode cX12_undo 39 = .ok (.iload_n 2, 1) := by decide +kernel
theorem dX12_undo_40 : decode cX12_undo 40 = .ok (.bipush 14, 2) := by decide +kernel
theorem dX12_undo_42 : decode cX12_undo 42 = .ok (.if_icmp .ge 25, 3) := by decide +kernel
theorem dX12_undo_45 : decode cX12_undo 45 = .ok (.aload_n 0, 1) := by decide +kernel
theorem dX12_undo_46 : decode cX12_undo 46 = .ok (.getfield 7, 3) := by decide +kernel
theorem dX12_undo_49 : decode cX12_undo 49 = .ok (.iconst 5, 1) := by decide +kernel
theorem dX12_undo_50 : decode cX12_undo 50 = .ok (.iload_n 2, 1) := by decide +kernel
theorem dX12_undo_51 : decode cX12_undo 51 = .ok (.iadd, 1) := by decide +kernel
theorem dX12_undo_52 : decode cX12_undo 52 = .ok (.aload_n 0, 1) := by decide +kernel
theorem dX12_undo_53 : decode cX12_undo 53 = .ok (.getfield 7, 3) := by decide +kernel
theorem dX12_undo_56 : decode cX12_undo 56 = .ok (.iload_n 1, 1) := by decide +kernel
theorem dX12_undo_57 : decode cX12_undo 57 = .ok (.iload_n 2, 1) := by decide +kernel
theorem dX12_undo_58 : decode cX12_undo 58 = .ok (.iadd, 1) := by decide +kernel
theorem dX12_undo_59 : decode cX12_undo 59 = .ok (.iaload, 1) := by decide +kernel
theorem dX12_undo_60 : decode cX12_undo 60 = .ok (.iastore, 1) := by decide +kernel
theorem dX12_undo_61 : decode cX12_undo 61 = .ok (.iinc 2 1, 3) := by decide +kernel
theorem dX12_undo_64 : decode cX12_undo 64 = .ok (.goto (-25), 3) := by decide +kernel
theorem dX12_undo_67 : decode cX12_undo 67 = .ok (.aload_n 0, 1) := by decide +kernel
theorem dX12_undo_68 : decode cX12_undo 68 = .ok (.getfield 7, 3) := by decide +kernel
theorem dX12_undo_71 : decode cX12_undo 71 = .ok (.iconst 1, 1) := by decide +kernel
theorem dX12_undo_72 : decode cX12_undo 72 = .ok (.aload_n 0, 1) := by decide +kernel
theorem dX12_undo_73 : decode cX12_undo 73 = .ok (.getfield 7, 3) := by decide +kernel
theorem dX12_undo_76 : decode cX12_undo 76 = .ok (.iload_n 1, 1) := by decide +kernel
theorem dX12_undo_77 : decode cX12_undo 77 = .ok (.bipush 14, 2) := by decide +kernel
theorem dX12_undo_79 : decode cX12_undo 79 = .ok (.iadd, 1) := by decide +kernel
theorem dX12_undo_80 : decode cX12_undo 80 = .ok (.iaload, 1) := by decide +kernel
theorem dX12_undo_81 : decode cX12_undo 81 = .ok (.iastore, 1) := by decide +kernel
theorem dX12_undo_82 : decode cX12_undo 82 = .ok (.aload_n 0, 1) := by decide +kernel
theorem dX12_undo_83 : decode cX12_undo 83 = .ok (.getfield 7, 3) := by decide +kernel
theorem dX12_undo_86 : decode cX12_undo 86 = .ok (.iconst 1, 1) := by decide +kernel
theorem dX12_undo_87 : decode cX12_undo 87 = .ok (.iaload, 1) := by decide +kernel
theorem dX12_undo_88 : decode cX12_undo 88 = .ok (.ireturn, 1) := by decide +kernel
theorem dX12_of_0 : decode cX12_of 0 = .ok (.aload_n 0, 1) := by decide +kernel
theorem dX12_of_1 : decode cX12_of 1 = .ok (.iload_n 1, 1) := by decide +kernel
theorem dX12_of_2 : decode cX12_of 2 = .ok (.invokevirtual 97, 3) := by decide +kernel
theorem dX12_of_5 : decode cX12_of 5 = .ok (.ifCond .eq 15, 3) := by decide +kernel
theorem dX12_of_8 : decode cX12_of 8 = .ok (.iload_n 2, 1) := by decide +kernel
theorem dX12_of_9 : decode cX12_of 9 = .ok (.i2l, 1) := by decide +kernel
theorem dX12_of_10 : decode cX12_of 10 = .ok (.lconst 0, 1) := by decide +kernel
theorem dX12_of_11 : decode cX12_of 11 = .ok (.ldc2_w 112, 3) := by decide +kernel
theorem dX12_of_14 : decode cX12_of 14 = .ok (.invokestatic 50, 3) := by decide +kernel
theorem dX12_of_17 : decode cX12_of 17 = .ok (.ifCond .ne 10, 3) := by decide +kernel
theorem dX12_of_20 : decode cX12_of 20 = .ok (.aload_n 0, 1) := by decide +kernel
theorem dX12_of_21 : decode cX12_of 21 = .ok (.bipush (-10), 2) := by decide +kernel
theorem dX12_of_23 : decode cX12_of 23 = .ok (.invokevirtual 58, 3) := by decide +kernel
theorem dX12_of_26 : decode cX12_of 26 = .ok (.ireturn, 1) := by decide +kernel
theorem dX12_of_27 : decode cX12_of 27 = .ok (.aload_n 0, 1) := by decide +kernel
theorem dX12_of_28 : decode cX12_of 28 = .ok (.getfield 7, 3) := by decide +kernel
theorem dX12_of_31 : decode cX12_of 31 = .ok (.iload_n 2, 1) := by decide +kernel
theorem dX12_of_32 : decode cX12_of 32 = .ok (.ifCond .ne 8, 3) := by decide +kernel
theorem dX12_of_35 : decode cX12_of 35 = .ok (.bipush 19, 2) := by decide +kernel
theorem dX12_of_37 : decode cX12_of 37 = .ok (.goto 14, 3) := by decide +kernel
theorem dX12_of_40 : decode cX12_of 40 = .ok (.iload_n 2, 1) := by decide +kernel
theorem dX12_of_41 : decode cX12_of 41 = .ok (.iconst 1, 1) := by decide +kernel
theorem dX12_of_42 : decode cX12_of 42 = .ok (.if_icmp .ne 8, 3) := by decide +kernel
theorem dX12_of_45 : decode cX12_of 45 = .ok (.bipush 12, 2) := by decide +kernel
theorem dX12_of_47 : decode cX12_of 47 = .ok (.goto 4, 3) := by decide +kernel
theorem dX12_of_50 : decode cX12_of 50 = .ok (.iconst 5, 1) := by decide +kernel
theorem dX12_of_51 : decode cX12_of 51 = .ok (.iload_n 1, 1) := by decide +kernel
theorem dX12_of_52 : decode cX12_of 52 = .ok (.iadd, 1) := by decide +kernel
theorem dX12_of_53 : decode cX12_of 53 = .ok (.iaload, 1) := by decide +kernel
theorem dX12_of_54 : decode cX12_of 54 = .ok (.ireturn, 1) := by decide +kernel
theorem dX12_turn_0 : decode cX12_turn 0 = .ok (.aload_n 0, 1) := by decide +kernel
theorem dX12_turn_1 : decode cX12_turn 1 = .ok (.iload_n 1, 1) := by decide +kernel
theorem dX12_turn_2 : decode cX12_turn 2 = .ok (.invokevirtual 97, 3) := by decide +kernel
theorem dX12_turn_5 : decode cX12_turn 5 = .ok (.ifCond .eq 10, 3) := by decide +kernel
theorem dX12_turn_8 : decode cX12_turn 8 = .ok (.iload_n 2, 1) := by decide +kernel
theorem dX12_turn_9 : decode cX12_turn 9 = .ok (.invokestatic 64, 3) := by decide +kernel
theorem dX12_turn_12 : decode cX12_turn 12 = .ok (.ifCond .ne 10, 3) := by decide +kernel
theorem dX12_turn_15 : decode cX12_turn 15 = .ok (.aload_n 0, 1) := by decide +kernel
theorem dX12_turn_16 : decode cX12_turn 16 = .ok (.bipush (-2), 2) := by decide +kernel
theorem dX12_turn_18 : decode cX12_turn 18 = .ok (.invokevirtual 58, 3) := by decide +kernel
theorem dX12_turn_21 : decode cX12_turn 21 = .ok (.ireturn, 1) := by decide +kernel
theorem dX12_turn_22 : decode cX12_turn 22 = .ok (.aload_n 0, 1) := by decide +kernel
theorem dX12_turn_23 : decode cX12_turn 23 = .ok (.invokevirtual 103, 3) := by decide +kernel
theorem dX12_turn_26 : decode cX12_turn 26 = .ok (.aload_n 0, 1) := by decide +kernel
theorem dX12_turn_27 : decode cX12_turn 27 = .ok (.iload_n 1, 1) := by decide +kernel
theorem dX12_turn_28 : decode cX12_turn 28 = .ok (.iload_n 2, 1) := by decide +kernel
theorem dX12_turn_29 : decode cX12_turn 29 = .ok (.invokevirtual 90, 3) := by decide +kernel
theorem dX12_turn_32 : decode cX12_turn 32 = .ok (.ireturn, 1) := by decide +kernel
theorem dX12_bearers_0 : decode cX12_bearers 0 = .ok (.aload_n 0, 1) := by decide +kernel
theorem dX12_bearers_1 : decode cX12_bearers 1 = .ok (.iload_n 1, 1) := by decide +kernel
theorem dX12_bearers_2 : decode cX12_bearers 2 = .ok (.invokevirtual 97, 3) := by decide +kernel
theorem dX12_bearers_5 : decode cX12_bearers 5 = .ok (.ifCond .ne 10, 3) := by decide +kernel
theorem dX12_bearers_8 : decode cX12_bearers 8 = .ok (.aload_n 0, 1) := by decide +kernel
theorem dX12_bearers_9 : decode cX12_bearers 9 = .ok (.bipush (-2), 2) := by decide +kernel
theorem dX12_bearers_11 : decode cX12_bearers 11 = .ok (.invokevirtual 58, 3) := by decide +kernel
theorem dX12_bearers_14 : decode cX12_bearers 14 = .ok (.ireturn, 1) := by decide +kernel
theorem dX12_bearers_15 : decode cX12_bearers 15 = .ok (.aload_n 0, 1) := by decide +kernel
theorem dX12_bearers_16 : decode cX12_bearers 16 = .ok (.invokevirtual 103, 3) := by decide +kernel
theorem dX12_bearers_19 : decode cX12_bearers 19 = .ok (.aload_n 0, 1) := by decide +kernel
theorem dX12_bearers_20 : decode cX12_bearers 20 = .ok (.iload_n 1, 1) := by decide +kernel
theorem dX12_bearers_21 : decode cX12_bearers 21 = .ok (.invokevirtual 75, 3) := by decide +kernel
theorem dX12_bearers_24 : decode cX12_bearers 24 = .ok (.ireturn, 1) := by decide +kernel
theorem dX12_names_0 : decode cX12_names 0 = .ok (.iload_n 1, 1) := by decide +kernel
theorem dX12_names_1 : decode cX12_names 1 = .ok (.i2l, 1) := by decide +kernel
theorem dX12_names_2 : decode cX12_names 2 = .ok (.lconst 0, 1) := by decide +kernel
theorem dX12_names_3 : decode cX12_names 3 = .ok (.lconst 1, 1) := by decide +kernel
theorem dX12_names_4 : decode cX12_names 4 = .ok (.invokestatic 50, 3) := by decide +kernel
theorem dX12_names_7 : decode cX12_names 7 = .ok (.ifCond .ne 10, 3) := by decide +kernel
theorem dX12_names_10 : decode cX12_names 10 = .ok (.aload_n 0, 1) := by decide +kernel
theorem dX12_names_11 : decode cX12_names 11 = .ok (.bipush (-2), 2) := by decide +kernel
theorem dX12_names_13 : decode cX12_names 13 = .ok (.invokevirtual 58, 3) := by decide +kernel
theorem dX12_names_16 : decode cX12_names 16 = .ok (.ireturn, 1) := by decide +kernel
theorem dX12_names_17 : decode cX12_names 17 = .ok (.iconst 0, 1) := by decide +kernel
theorem dX12_names_18 : decode cX12_names 18 = .ok (.istore_n 2, 1) := by decide +kernel
theorem dX12_names_19 : decode cX12_names 19 = .ok (.aload_n 0, 1) := by decide +kernel
theorem dX12_names_20 : decode cX12_names 20 = .ok (.invokevirtual 103, 3) := by decide +kernel
theorem dX12_names_23 : decode cX12_names 23 = .ok (.iconst 0, 1) := by decide +kernel
theorem dX12_names_24 : decode cX12_names 24 = .ok (.istore_n 3, 1) := by decide +kernel
theorem dX12_names_25 : decode cX12_names 25 = .ok (.iload_n 3, 1) := by decide +kernel
theorem dX12_names_26 : decode cX12_names 26 = .ok (.aload_n 0, 1) := by decide +kernel
theorem dX12_names_27 : decode cX12_names 27 = .ok (.invokevirtual 46, 3) := by decide +kernel
theorem dX12_names_30 : decode cX12_names 30 = .ok (.if_icmp .ge 49, 3) := by decide +kernel
theorem dX12_names_33 : decode cX12_names 33 = .ok (.aload_n 0, 1) := by decide +kernel
theorem dX12_names_34 : decode cX12_names 34 = .ok (.iload_n 3, 1) := by decide +kernel
theorem dX12_names_35 : decode cX12_names 35 = .ok (.invokevirtual 75, 3) := by decide +kernel
theorem dX12_names_38 : decode cX12_names 38 = .ok (.invokestatic 114, 3) := by decide +kernel
theorem dX12_names_41 : decode cX12_names 41 = .ok (.istore 4, 2) := by decide +kernel
theorem dX12_names_43 : decode cX12_names 43 = .ok (.iload_n 2, 1) := by decide +kernel
theorem dX12_names_44 : decode cX12_names 44 = .ok (.iload_n 1, 1) := by decide +kernel
theorem dX12_names_45 : decode cX12_names 45 = .ok (.ifCond .ne 8, 3) := by decide +kernel
theorem dX12_names_48 : decode cX12_names 48 = .ok (.iload 4, 2) := by decide +kernel
theorem dX12_names_50 : decode cX12_names 50 = .ok (.ifCond .eq 14, 3) := by decide +kernel
theorem dX12_names_53 : decode cX12_names 53 = .ok (.iload_n 1, 1) := by decide +kernel
theorem dX12_names_54 : decode cX12_names 54 = .ok (.iconst 1, 1) := by decide +kernel
theorem dX12_names_55 : decode cX12_names 55 = .ok (.if_icmp .ne 15, 3) := by decide +kernel
theorem dX12_names_58 : decode cX12_names 58 = .ok (.iload 4, 2) := by decide +kernel
theorem dX12_names_60 : decode cX12_names 60 = .ok (.iconst 1, 1) := by decide +kernel
theorem dX12_names_61 : decode cX12_names 61 = .ok (.if_icmp .le 9, 3) := by decide +kernel
theorem dX12_names_64 : decode cX12_names 64 = .ok (.iconst 1, 1) := by decide +kernel
theorem dX12_names_65 : decode cX12_names 65 = .ok (.iload_n 3, 1) := by decide +kernel
theorem dX12_names_66 : decode cX12_names 66 = .ok (.ishl, 1) := by decide +kernel
theorem dX12_names_67 : decode cX12_names 67 = .ok (.goto 4, 3) := by decide +kernel
theorem dX12_names_70 : decode cX12_names 70 = .ok (.iconst 0, 1) := by decide +kernel
theorem dX12_names_71 : decode cX12_names 71 = .ok (.ior, 1) := by decide +kernel
theorem dX12_names_72 : decode cX12_names 72 = .ok (.istore_n 2, 1) := by decide +kernel
theorem dX12_names_73 : decode cX12_names 73 = .ok (.iinc 3 1, 3) := by decide +kernel
theorem dX12_names_76 : decode cX12_names 76 = .ok (.goto (-51), 3) := by decide +kernel
theorem dX12_names_79 : decode cX12_names 79 = .ok (.iload_n 2, 1) := by decide +kernel
theorem dX12_names_80 : decode cX12_names 80 = .ok (.ireturn, 1) := by decide +kernel
theorem dX12_goCodes_0 : decode cX12_goCodes 0 = .ok (.aload_n 0, 1) := by decide +kernel
theorem dX12_goCodes_1 : decode cX12_goCodes 1 = .ok (.invokevirtual 103, 3) := by decide +kernel
theorem dX12_goCodes_4 : decode cX12_goCodes 4 = .ok (.iload_n 1, 1) := by decide +kernel
theorem dX12_goCodes_5 : decode cX12_goCodes 5 = .ok (.iconst (-1), 1) := by decide +kernel
theorem dX12_goCodes_6 : decode cX12_goCodes 6 = .ok (.if_icmp .eq 16, 3) := by decide +kernel
theorem dX12_goCodes_9 : decode cX12_goCodes 9 = .ok (.aload_n 0, 1) := by decide +kernel
theorem dX12_goCodes_10 : decode cX12_goCodes 10 = .ok (.iload_n 1, 1) := by decide +kernel
theorem dX12_goCodes_11 : decode cX12_goCodes 11 = .ok (.bipush 10, 2) := by decide +kernel
theorem dX12_goCodes_13 : decode cX12_goCodes 13 = .ok (.idiv, 1) := by decide +kernel
theorem dX12_goCodes_14 : decode cX12_goCodes 14 = .ok (.iload_n 1, 1) := by decide +kernel
theorem dX12_goCodes_15 : decode cX12_goCodes 15 = .ok (.bipush 10, 2) := by decide +kernel
theorem dX12_goCodes_17 : decode cX12_goCodes 17 = .ok (.irem, 1) := by decide +kernel
theorem dX12_goCodes_18 : decode cX12_goCodes 18 = .ok (.invokevirtual 106, 3) := by decide +kernel
theorem dX12_goCodes_21 : decode cX12_goCodes 21 = .ok (.istore_n 3, 1) := by decide +kernel
theorem dX12_goCodes_22 : decode cX12_goCodes 22 = .ok (.iload_n 2, 1) := by decide +kernel
theorem dX12_goCodes_23 : decode cX12_goCodes 23 = .ok (.iconst (-1), 1) := by decide +kernel
theorem dX12_goCodes_24 : decode cX12_goCodes 24 = .ok (.if_icmp .eq 16, 3) := by decide +kernel
theorem dX12_goCodes_27 : decode cX12_goCodes 27 = .ok (.aload_n 0, 1) := by decide +kernel
theorem dX12_goCodes_28 : decode cX12_goCodes 28 = .ok (.iload_n 2, 1) := by decide +kernel
theorem dX12_goCodes_29 : decode cX12_goCodes 29 = .ok (.bipush 10, 2) := by decide +kernel
theorem dX12_goCodes_31 : decode cX12_goCodes 31 = .ok (.idiv, 1) := by decide +kernel
theorem dX12_goCodes_32 : decode cX12_goCodes 32 = .ok (.iload_n 2, 1) := by decide +kernel
theorem dX12_goCodes_33 : decode cX12_goCodes 33 = .ok (.bipush 10, 2) := by decide +kernel
theorem dX12_goCodes_35 : decode cX12_goCodes 35 = .ok (.irem, 1) := by decide +kernel
theorem dX12_goCodes_36 : decode cX12_goCodes 36 = .ok (.invokevirtual 106, 3) := by decide +kernel
theorem dX12_goCodes_39 : decode cX12_goCodes 39 = .ok (.istore_n 3, 1) := by decide +kernel
theorem dX12_goCodes_40 : decode cX12_goCodes 40 = .ok (.return_, 1) := by decide +kernel
theorem dX12_layCalls_0 : decode cX12_layCalls 0 = .ok (.bipush 10, 2) := by decide +kernel
theorem dX12_layCalls_2 : decode cX12_layCalls 2 = .ok (.aload_n 0, 1) := by decide +kernel
theorem dX12_layCalls_3 : decode cX12_layCalls 3 = .ok (.invokevirtual 46, 3) := by decide +kernel
theorem dX12_layCalls_6 : decode cX12_layCalls 6 = .ok (.imul, 1) := by decide +kernel
theorem dX12_layCalls_7 : decode cX12_layCalls 7 = .ok (.istore_n 3, 1) := by decide +kernel
theorem dX12_layCalls_8 : decode cX12_layCalls 8 = .ok (.aload_n 0, 1) := by decide +kernel
theorem dX12_layCalls_9 : decode cX12_layCalls 9 = .ok (.iconst (-1), 1) := by decide +kernel
theorem dX12_layCalls_10 : decode cX12_layCalls 10 = .ok (.iconst (-1), 1) := by decide +kernel
theorem dX12_layCalls_11 : decode cX12_layCalls 11 = .ok (.invokevirtual 117, 3) := by decide +kernel
theorem dX12_layCalls_14 : decode cX12_layCalls 14 = .ok (.aload_n 0, 1) := by decide +kernel
theorem dX12_layCalls_15 : decode cX12_layCalls 15 = .ok (.aload_n 0, 1) := by decide +kernel
theorem dX12_layCalls_16 : decode cX12_layCalls 16 = .ok (.getfield 27, 3) := by decide +kernel
theorem dX12_layCalls_19 : decode cX12_layCalls 19 = .ok (.iload_n 1, 1) := by decide +kernel
theorem dX12_layCalls_20 : decode cX12_layCalls 20 = .ok (.iaload, 1) := by decide +kernel
theorem dX12_layCalls_21 : decode cX12_layCalls 21 = .ok (.iload_n 2, 1) := by decide +kernel
theorem dX12_layCalls_22 : decode cX12_layCalls 22 = .ok (.if_icmp .ne 7, 3) := by decide +kernel
theorem dX12_layCalls_25 : decode cX12_layCalls 25 = .ok (.iconst 0, 1) := by decide +kernel
theorem dX12_layCalls_26 : decode cX12_layCalls 26 = .ok (.goto 4, 3) := by decide +kernel
theorem dX12_layCalls_29 : decode cX12_layCalls 29 = .ok (.iconst (-1), 1) := by decide +kernel
theorem dX12_layCalls_30 : decode cX12_layCalls 30 = .ok (.putfield 120, 3) := by decide +kernel
theorem dX12_layCalls_33 : decode cX12_layCalls 33 = .ok (.aload_n 0, 1) := by decide +kernel
theorem dX12_layCalls_34 : decode cX12_layCalls 34 = .ok (.iconst (-1), 1) := by decide +kernel
theorem dX12_layCalls_35 : decode cX12_layCalls 35 = .ok (.putfield 124, 3) := by decide +kernel
theorem dX12_layCalls_38 : decode cX12_layCalls 38 = .ok (.iconst 0, 1) := by decide +kernel
theorem dX12_layCalls_39 : decode cX12_layCalls 39 = .ok (.istore 4, 2) := by decide +kernel
theorem dX12_layCalls_41 : decode cX12_layCalls 41 = .ok (.iload 4, 2) := by decide +kernel
theorem dX12_layCalls_43 : decode cX12_layCalls 43 = .ok (.iload_n 3, 1) := by decide +kernel
theorem dX12_layCalls_44 : decode cX12_layCalls 44 = .ok (.if_icmp .ge 45, 3) := by decide +kernel
theorem dX12_layCalls_47 : decode cX12_layCalls 47 = .ok (.aload_n 0, 1) := by decide +kernel
theorem dX12_layCalls_48 : decode cX12_layCalls 48 = .ok (.getfield 120, 3) := by decide +kernel
theorem dX12_layCalls_51 : decode cX12_layCalls 51 = .ok (.iconst (-1), 1) := by decide +kernel
theorem dX12_layCalls_52 : decode cX12_layCalls 52 = .ok (.if_icmp .ne 37, 3) := by decide +kernel
theorem dX12_layCalls_55 : decode cX12_layCalls 55 = .ok (.aload_n 0, 1) := by decide +kernel
theorem dX12_layCalls_56 : decode cX12_layCalls 56 = .ok (.iload 4, 2) := by decide +kernel
theorem dX12_layCalls_58 : decode cX12_layCalls 58 = .ok (.iconst (-1), 1) := by decide +kernel
theorem dX12_layCalls_59 : decode cX12_layCalls 59 = .ok (.invokevirtual 117, 3) := by decide +kernel
theorem dX12_layCalls_62 : decode cX12_layCalls 62 = .ok (.aload_n 0, 1) := by decide +kernel
theorem dX12_layCalls_63 : decode cX12_layCalls 63 = .ok (.getfield 27, 3) := by decide +kernel
theorem dX12_layCalls_66 : decode cX12_layCalls 66 = .ok (.iload_n 1, 1) := by decide +kernel
theorem dX12_layCalls_67 : decode cX12_layCalls 67 = .ok (.iaload, 1) := by decide +kernel
theorem dX12_layCalls_68 : decode cX12_layCalls 68 = .ok (.iload_n 2, 1) := by decide +kernel
theorem dX12_layCalls_69 : decode cX12_layCalls 69 = .ok (.if_icmp .ne 14, 3) := by decide +kernel
theorem dX12_layCalls_72 : decode cX12_layCalls 72 = .ok (.aload_n 0, 1) := by decide +kernel
theorem dX12_layCalls_73 : decode cX12_layCalls 73 = .ok (.iconst 1, 1) := by decide +kernel
theorem dX12_layCalls_74 : decode cX12_layCalls 74 = .ok (.putfield 120, 3) := by decide +kernel
theorem dX12_layCalls_77 : decode cX12_layCalls 77 = .ok (.aload_n 0, 1) := by decide +kernel
theorem dX12_layCalls_78 : decode cX12_layCalls 78 = .ok (.iload 4, 2) := by decide +kernel
theorem dX12_layCalls_80 : decode cX12_layCalls 80 = .ok (.putfield 124, 3) := by decide +kernel
theorem dX12_layCalls_83 : decode cX12_layCalls 83 = .ok (.iinc 4 1, 3) := by decide +kernel
theorem dX12_layCalls_86 : decode cX12_layCalls 86 = .ok (.goto (-45), 3) := by decide +kernel
theorem dX12_layCalls_89 : decode cX12_layCalls 89 = .ok (.iconst 0, 1) := by decide +kernel
theorem dX12_layCalls_90 : decode cX12_layCalls 90 = .ok (.istore 4, 2) := by decide +kernel
theorem dX12_layCalls_92 : decode cX12_layCalls 92 = .ok (.iload 4, 2) := by decide +kernel
theorem dX12_layCalls_94 : decode cX12_layCalls 94 = .ok (.iload_n 3, 1) := by decide +kernel
theorem dX12_layCalls_95 : decode cX12_layCalls 95 = .ok (.if_icmp .ge 69, 3) := by decide +kernel
theorem dX12_layCalls_98 : decode cX12_layCalls 98 = .ok (.aload_n 0, 1) := by decide +kernel
theorem dX12_layCalls_99 : decode cX12_layCalls 99 = .ok (.getfield 120, 3) := by decide +kernel
theorem dX12_layCalls_102 : decode cX12_layCalls 102 = .ok (.iconst (-1), 1) := by decide +kernel
theorem dX12_layCalls_103 : decode cX12_layCalls 103 = .ok (.if_icmp .ne 61, 3) := by decide +kernel
theorem dX12_layCalls_106 : decode cX12_layCalls 106 = .ok (.iconst 0, 1) := by decide +kernel
theorem dX12_layCalls_107 : decode cX12_layCalls 107 = .ok (.istore 5, 2) := by decide +kernel
theorem dX12_layCalls_109 : decode cX12_layCalls 109 = .ok (.iload 5, 2) := by decide +kernel
theorem dX12_layCalls_111 : decode cX12_layCalls 111 = .ok (.iload_n 3, 1) := by decide +kernel
theorem dX12_layCalls_112 : decode cX12_layCalls 112 = .ok (.if_icmp .ge 46, 3) := by decide +kernel
theorem dX12_layCalls_115 : decode cX12_layCalls 115 = .ok (.aload_n 0, 1) := by decide +kernel
theorem dX12_layCalls_116 : decode cX12_layCalls 116 = .ok (.getfield 120, 3) := by decide +kernel
theorem dX12_layCalls_119 : decode cX12_layCalls 119 = .ok (.iconst (-1), 1) := by decide +kernel
theorem dX12_layCalls_120 : decode cX12_layCalls 120 = .ok (.if_icmp .ne 38, 3) := by decide +kernel
theorem dX12_layCalls_123 : decode cX12_layCalls 123 = .ok (.aload_n 0, 1) := by decide +kernel
theorem dX12_layCalls_124 : decode cX12_layCalls 124 = .ok (.iload 4, 2) := by decide +kernel
theorem dX12_layCalls_126 : decode cX12_layCalls 126 = .ok (.iload 5, 2) := by decide +kernel
theorem dX12_layCalls_128 : decode cX12_layCalls 128 = .ok (.invokevirtual 117, 3) := by decide +kernel
theorem dX12_layCalls_131 : decode cX12_layCalls 131 = .ok (.aload_n 0, 1) := by decide +kernel
theorem dX12_layCalls_132 : decode cX12_layCalls 132 = .ok (.getfield 27, 3) := by decide +kernel
theorem dX12_layCalls_135 : decode cX12_layCalls 135 = .ok (.iload_n 1, 1) := by decide +kernel
theorem dX12_layCalls_136 : decode cX12_layCalls 136 = .ok (.iaload, 1) := by decide +kernel
theorem dX12_layCalls_137 : decode cX12_layCalls 137 = .ok (.iload_n 2, 1) := by decide +kernel
theorem dX12_layCalls_138 : decode cX12_layCalls 138 = .ok (.if_icmp .ne 14, 3) := by decide +kernel
theorem dX12_layCalls_141 : decode cX12_layCalls 141 = .ok (.aload_n 0, 1) := by decide +kernel
theorem dX12_layCalls_142 : decode cX12_layCalls 142 = .ok (.iconst 2, 1) := by decide +kernel
theorem dX12_layCalls_143 : decode cX12_layCalls 143 = .ok (.putfield 120, 3) := by decide +kernel
theorem dX12_layCalls_146 : decode cX12_layCalls 146 = .ok (.aload_n 0, 1) := by decide +kernel
theorem dX12_layCalls_147 : decode cX12_layCalls 147 = .ok (.iload 4, 2) := by decide +kernel
theorem dX12_layCalls_149 : decode cX12_layCalls 149 = .ok (.putfield 124, 3) := by decide +kernel
theorem dX12_layCalls_152 : decode cX12_layCalls 152 = .ok (.iinc 5 1, 3) := by decide +kernel
theorem dX12_layCalls_155 : decode cX12_layCalls 155 = .ok (.goto (-46), 3) := by decide +kernel
theorem dX12_layCalls_158 : decode cX12_layCalls 158 = .ok (.iinc 4 1, 3) := by decide +kernel
theorem dX12_layCalls_161 : decode cX12_layCalls 161 = .ok (.goto (-69), 3) := by decide +kernel
theorem dX12_layCalls_164 : decode cX12_layCalls 164 = .ok (.return_, 1) := by decide +kernel
theorem dX12_calls_0 : decode cX12_calls 0 = .ok (.aload_n 0, 1) := by decide +kernel
theorem dX12_calls_1 : decode cX12_calls 1 = .ok (.iload_n 1, 1) := by decide +kernel
theorem dX12_calls_2 : decode cX12_calls 2 = .ok (.invokevirtual 97, 3) := by decide +kernel
theorem dX12_calls_5 : decode cX12_calls 5 = .ok (.ifCond .eq 21, 3) := by decide +kernel
theorem dX12_calls_8 : decode cX12_calls 8 = .ok (.aload_n 0, 1) := by decide +kernel
theorem dX12_calls_9 : decode cX12_calls 9 = .ok (.iload_n 2, 1) := by decide +kernel
theorem dX12_calls_10 : decode cX12_calls 10 = .ok (.invokevirtual 97, 3) := by decide +kernel
theorem dX12_calls_13 : decode cX12_calls 13 = .ok (.ifCond .eq 13, 3) := by decide +kernel
theorem dX12_calls_16 : decode cX12_calls 16 = .ok (.iload_n 3, 1) := by decide +kernel
theorem dX12_calls_17 : decode cX12_calls 17 = .ok (.i2l, 1) := by decide +kernel
theorem dX12_calls_18 : decode cX12_calls 18 = .ok (.lconst 0, 1) := by decide +kernel
theorem dX12_calls_19 : decode cX12_calls 19 = .ok (.lconst 1, 1) := by decide +kernel
theorem dX12_calls_20 : decode cX12_calls 20 = .ok (.invokestatic 50, 3) := by decide +kernel
theorem dX12_calls_23 : decode cX12_calls 23 = .ok (.ifCond .ne 10, 3) := by decide +kernel
theorem dX12_calls_26 : decode cX12_calls 26 = .ok (.aload_n 0, 1) := by decide +kernel
theorem dX12_calls_27 : decode cX12_calls 27 = .ok (.bipush (-2), 2) := by decide +kernel
theorem dX12_calls_29 : decode cX12_calls 29 = .ok (.invokevirtual 58, 3) := by decide +kernel
theorem dX12_calls_32 : decode cX12_calls 32 = .ok (.ireturn, 1) := by decide +kernel
theorem dX12_calls_33 : decode cX12_calls 33 = .ok (.aload_n 0, 1) := by decide +kernel
theorem dX12_calls_34 : decode cX12_calls 34 = .ok (.iload_n 1, 1) := by decide +kernel
theorem dX12_calls_35 : decode cX12_calls 35 = .ok (.iload_n 2, 1) := by decide +kernel
theorem dX12_calls_36 : decode cX12_calls 36 = .ok (.invokevirtual 127, 3) := by decide +kernel
theorem dX12_calls_39 : decode cX12_calls 39 = .ok (.iload_n 3, 1) := by decide +kernel
theorem dX12_calls_40 : decode cX12_calls 40 = .ok (.ifCond .ne 10, 3) := by decide +kernel
theorem dX12_calls_43 : decode cX12_calls 43 = .ok (.aload_n 0, 1) := by decide +kernel
theorem dX12_calls_44 : decode cX12_calls 44 = .ok (.getfield 120, 3) := by decide +kernel
theorem dX12_calls_47 : decode cX12_calls 47 = .ok (.goto 7, 3) := by decide +kernel
theorem dX12_calls_50 : decode cX12_calls 50 = .ok (.aload_n 0, 1) := by decide +kernel
theorem dX12_calls_51 : decode cX12_calls 51 = .ok (.getfield 124, 3) := by decide +kernel
theorem dX12_calls_54 : decode cX12_calls 54 = .ok (.ireturn, 1) := by decide +kernel
theorem dX12_judgeOwn_0 : decode cX12_judgeOwn 0 = .ok (.aload_n 0, 1) := by decide +kernel
theorem dX12_judgeOwn_1 : decode cX12_judgeOwn 1 = .ok (.invokevirtual 130, 3) := by decide +kernel
theorem dX12_judgeOwn_4 : decode cX12_judgeOwn 4 = .ok (.istore_n 3, 1) := by decide +kernel
theorem dX12_judgeOwn_5 : decode cX12_judgeOwn 5 = .ok (.iload_n 3, 1) := by decide +kernel
theorem dX12_judgeOwn_6 : decode cX12_judgeOwn 6 = .ok (.aload_n 0, 1) := by decide +kernel
theorem dX12_judgeOwn_7 : decode cX12_judgeOwn 7 = .ok (.getfield 133, 3) := by decide +kernel
theorem dX12_judgeOwn_10 : decode cX12_judgeOwn 10 = .ok (.if_icmp .le 18, 3) := by decide +kernel
theorem dX12_judgeOwn_13 : decode cX12_judgeOwn 13 = .ok (.aload_n 0, 1) := by decide +kernel
theorem dX12_judgeOwn_14 : decode cX12_judgeOwn 14 = .ok (.iload_n 3, 1) := by decide +kernel
theorem dX12_judgeOwn_15 : decode cX12_judgeOwn 15 = .ok (.putfield 133, 3) := by decide +kernel
theorem dX12_judgeOwn_18 : decode cX12_judgeOwn 18 = .ok (.aload_n 0, 1) := by decide +kernel
theorem dX12_judgeOwn_19 : decode cX12_judgeOwn 19 = .ok (.iload_n 1, 1) := by decide +kernel
theorem dX12_judgeOwn_20 : decode cX12_judgeOwn 20 = .ok (.putfield 120, 3) := by decide +kernel
theorem dX12_judgeOwn_23 : decode cX12_judgeOwn 23 = .ok (.aload_n 0, 1) := by decide +kernel
theorem dX12_judgeOwn_24 : decode cX12_judgeOwn 24 = .ok (.iload_n 2, 1) := by decide +kernel
theorem dX12_judgeOwn_25 : decode cX12_judgeOwn 25 = .ok (.putfield 124, 3) := by decide +kernel
theorem dX12_judgeOwn_28 : decode cX12_judgeOwn 28 = .ok (.return_, 1) := by decide +kernel
theorem dX12_layOwn_0 : decode cX12_layOwn 0 = .ok (.bipush 10, 2) := by decide +kernel
theorem dX12_layOwn_2 : decode cX12_layOwn 2 = .ok (.aload_n 0, 1) := by decide +kernel
theorem dX12_layOwn_3 : decode cX12_layOwn 3 = .ok (.invokevirtual 46, 3) := by decide +kernel
theorem dX12_layOwn_6 : decode cX12_layOwn 6 = .ok (.imul, 1) := by decide +kernel
theorem dX12_layOwn_7 : decode cX12_layOwn 7 = .ok (.istore_n 1, 1) := by decide +kernel
theorem dX12_layOwn_8 : decode cX12_layOwn 8 = .ok (.aload_n 0, 1) := by decide +kernel
theorem dX12_layOwn_9 : decode cX12_layOwn 9 = .ok (.iconst (-1), 1) := by decide +kernel
theorem dX12_layOwn_10 : decode cX12_layOwn 10 = .ok (.putfield 133, 3) := by decide +kernel
theorem dX12_layOwn_13 : decode cX12_layOwn 13 = .ok (.aload_n 0, 1) := by decide +kernel
theorem dX12_layOwn_14 : decode cX12_layOwn 14 = .ok (.iconst (-1), 1) := by decide +kernel
theorem dX12_layOwn_15 : decode cX12_layOwn 15 = .ok (.iconst (-1), 1) := by decide +kernel
theorem dX12_layOwn_16 : decode cX12_layOwn 16 = .ok (.invokevirtual 117, 3) := by decide +kernel
theorem dX12_layOwn_19 : decode cX12_layOwn 19 = .ok (.aload_n 0, 1) := by decide +kernel
theorem dX12_layOwn_20 : decode cX12_layOwn 20 = .ok (.iconst 0, 1) := by decide +kernel
theorem dX12_layOwn_21 : decode cX12_layOwn 21 = .ok (.iconst (-1), 1) := by decide +kernel
theorem dX12_layOwn_22 : decode cX12_layOwn 22 = .ok (.invokevirtual 136, 3) := by decide +kernel
theorem dX12_layOwn_25 : decode cX12_layOwn 25 = .ok (.iconst 0, 1) := by decide +kernel
theorem dX12_layOwn_26 : decode cX12_layOwn 26 = .ok (.istore_n 2, 1) := by decide +kernel
theorem dX12_layOwn_27 : decode cX12_layOwn 27 = .ok (.iload_n 2, 1) := by decide +kernel
theorem dX12_layOwn_28 : decode cX12_layOwn 28 = .ok (.iload_n 1, 1) := by decide +kernel
theorem dX12_layOwn_29 : decode cX12_layOwn 29 = .ok (.if_icmp .ge 21, 3) := by decide +kernel
theorem dX12_layOwn_32 : decode cX12_layOwn 32 = .ok (.aload_n 0, 1) := by decide +kernel
theorem dX12_layOwn_33 : decode cX12_layOwn 33 = .ok (.iload_n 2, 1) := by decide +kernel
theorem dX12_layOwn_34 : decode cX12_layOwn 34 = .ok (.iconst (-1), 1) := by decide +kernel
theorem dX12_layOwn_35 : decode cX12_layOwn 35 = .ok (.invokevirtual 117, 3) := by decide +kernel
theorem dX12_layOwn_38 : decode cX12_layOwn 38 = .ok (.aload_n 0, 1) := by decide +kernel
theorem dX12_layOwn_39 : decode cX12_layOwn 39 = .ok (.iconst 1, 1) := by decide +kernel
theorem dX12_layOwn_40 : decode cX12_layOwn 40 = .ok (.iload_n 2, 1) := by decide +kernel
theorem dX12_layOwn_41 : decode cX12_layOwn 41 = .ok (.invokevirtual 136, 3) := by decide +kernel
theorem dX12_layOwn_44 : decode cX12_layOwn 44 = .ok (.iinc 2 1, 3) := by decide +kernel
theorem dX12_layOwn_47 : decode cX12_layOwn 47 = .ok (.goto (-20), 3) := by decide +kernel
theorem dX12_layOwn_50 : decode cX12_layOwn 50 = .ok (.iconst 0, 1) := by decide +kernel
theorem dX12_layOwn_51 : decode cX12_layOwn 51 = .ok (.istore_n 2, 1) := by decide +kernel
theorem dX12_layOwn_52 : decode cX12_layOwn 52 = .ok (.iload_n 2, 1) := by decide +kernel
theorem dX12_layOwn_53 : decode cX12_layOwn 53 = .ok (.iload_n 1, 1) := by decide +kernel
theorem dX12_layOwn_54 : decode cX12_layOwn 54 = .ok (.if_icmp .ge 34, 3) := by decide +kernel
theorem dX12_layOwn_57 : decode cX12_layOwn 57 = .ok (.iconst 0, 1) := by decide +kernel
theorem dX12_layOwn_58 : decode cX12_layOwn 58 = .ok (.istore_n 3, 1) := by decide +kernel
theorem dX12_layOwn_59 : decode cX12_layOwn 59 = .ok (.iload_n 3, 1) := by decide +kernel
theorem dX12_layOwn_60 : decode cX12_layOwn 60 = .ok (.iload_n 1, 1) := by decide +kernel
theorem dX12_layOwn_61 : decode cX12_layOwn 61 = .ok (.if_icmp .ge 21, 3) := by decide +kernel
theorem dX12_layOwn_64 : decode cX12_layOwn 64 = .ok (.aload_n 0, 1) := by decide +kernel
theorem dX12_layOwn_65 : decode cX12_layOwn 65 = .ok (.iload_n 2, 1) := by decide +kernel
theorem dX12_layOwn_66 : decode cX12_layOwn 66 = .ok (.iload_n 3, 1) := by decide +kernel
theorem dX12_layOwn_67 : decode cX12_layOwn 67 = .ok (.invokevirtual 117, 3) := by decide +kernel
theorem dX12_layOwn_70 : decode cX12_layOwn 70 = .ok (.aload_n 0, 1) := by decide +kernel
theorem dX12_layOwn_71 : decode cX12_layOwn 71 = .ok (.iconst 2, 1) := by decide +kernel
theorem dX12_layOwn_72 : decode cX12_layOwn 72 = .ok (.iload_n 2, 1) := by decide +kernel
theorem dX12_layOwn_73 : decode cX12_layOwn 73 = .ok (.invokevirtual 136, 3) := by decide +kernel
theorem dX12_layOwn_76 : decode cX12_layOwn 76 = .ok (.iinc 3 1, 3) := by decide +kernel
theorem dX12_layOwn_79 : decode cX12_layOwn 79 = .ok (.goto (-20), 3) := by decide +kernel
theorem dX12_layOwn_82 : decode cX12_layOwn 82 = .ok (.iinc 2 1, 3) := by decide +kernel
theorem dX12_layOwn_85 : decode cX12_layOwn 85 = .ok (.goto (-33), 3) := by decide +kernel
theorem dX12_layOwn_88 : decode cX12_layOwn 88 = .ok (.return_, 1) := by decide +kernel
theorem dX12_own_0 : decode cX12_own 0 = .ok (.iload_n 1, 1) := by decide +kernel
theorem dX12_own_1 : decode cX12_own 1 = .ok (.i2l, 1) := by decide +kernel
theorem dX12_own_2 : decode cX12_own 2 = .ok (.lconst 0, 1) := by decide +kernel
theorem dX12_own_3 : decode cX12_own 3 = .ok (.ldc2_w 112, 3) := by decide +kernel
theorem dX12_own_6 : decode cX12_own 6 = .ok (.invokestatic 50, 3) := by decide +kernel
theorem dX12_own_9 : decode cX12_own 9 = .ok (.ifCond .ne 10, 3) := by decide +kernel
theorem dX12_own_12 : decode cX12_own 12 = .ok (.aload_n 0, 1) := by decide +kernel
theorem dX12_own_13 : decode cX12_own 13 = .ok (.bipush (-2), 2) := by decide +kernel
theorem dX12_own_15 : decode cX12_own 15 = .ok (.invokevirtual 58, 3) := by decide +kernel
theorem dX12_own_18 : decode cX12_own 18 = .ok (.ireturn, 1) := by decide +kernel
theorem dX12_own_19 : decode cX12_own 19 = .ok (.aload_n 0, 1) := by decide +kernel
theorem dX12_own_20 : decode cX12_own 20 = .ok (.invokevirtual 139, 3) := by decide +kernel
theorem dX12_own_23 : decode cX12_own 23 = .ok (.iload_n 1, 1) := by decide +kernel
theorem dX12_own_24 : decode cX12_own 24 = .ok (.ifCond .ne 10, 3) := by decide +kernel
theorem dX12_own_27 : decode cX12_own 27 = .ok (.aload_n 0, 1) := by decide +kernel
theorem dX12_own_28 : decode cX12_own 28 = .ok (.getfield 120, 3) := by decide +kernel
theorem dX12_own_31 : decode cX12_own 31 = .ok (.goto 19, 3) := by decide +kernel
theorem dX12_own_34 : decode cX12_own 34 = .ok (.iload_n 1, 1) := by decide +kernel
theorem dX12_own_35 : decode cX12_own 35 = .ok (.iconst 1, 1) := by decide +kernel
theorem dX12_own_36 : decode cX12_own 36 = .ok (.if_icmp .ne 10, 3) := by decide +kernel
theorem dX12_own_39 : decode cX12_own 39 = .ok (.aload_n 0, 1) := by decide +kernel
theorem dX12_own_40 : decode cX12_own 40 = .ok (.getfield 133, 3) := by decide +kernel
theorem dX12_own_43 : decode cX12_own 43 = .ok (.goto 7, 3) := by decide +kernel
theorem dX12_own_46 : decode cX12_own 46 = .ok (.aload_n 0, 1) := by decide +kernel
theorem dX12_own_47 : decode cX12_own 47 = .ok (.getfield 124, 3) := by decide +kernel
theorem dX12_own_50 : decode cX12_own 50 = .ok (.ireturn, 1) := by decide +kernel
theorem dX12_ring_0 : decode cX12_ring 0 = .ok (.aload_n 0, 1) := by decide +kernel
theorem dX12_ring_1 : decode cX12_ring 1 = .ok (.iload_n 1, 1) := by decide +kernel
theorem dX12_ring_2 : decode cX12_ring 2 = .ok (.invokevirtual 97, 3) := by decide +kernel
theorem dX12_ring_5 : decode cX12_ring 5 = .ok (.ifCond .ne 10, 3) := by decide +kernel
theorem dX12_ring_8 : decode cX12_ring 8 = .ok (.aload_n 0, 1) := by decide +kernel
theorem dX12_ring_9 : decode cX12_ring 9 = .ok (.bipush (-2), 2) := by decide +kernel
theorem dX12_ring_11 : decode cX12_ring 11 = .ok (.invokevirtual 58, 3) := by decide +kernel
theorem dX12_ring_14 : decode cX12_ring 14 = .ok (.ireturn, 1) := by decide +kernel
theorem dX12_ring_15 : decode cX12_ring 15 = .ok (.iload_n 1, 1) := by decide +kernel
theorem dX12_ring_16 : decode cX12_ring 16 = .ok (.istore_n 2, 1) := by decide +kernel
theorem dX12_ring_17 : decode cX12_ring 17 = .ok (.iconst 1, 1) := by decide +kernel
theorem dX12_ring_18 : decode cX12_ring 18 = .ok (.istore_n 3, 1) := by decide +kernel
theorem dX12_ring_19 : decode cX12_ring 19 = .ok (.iload_n 3, 1) := by decide +kernel
theorem dX12_ring_20 : decode cX12_ring 20 = .ok (.bipush 7, 2) := by decide +kernel
theorem dX12_ring_22 : decode cX12_ring 22 = .ok (.if_icmp .gt 39, 3) := by decide +kernel
theorem dX12_ring_25 : decode cX12_ring 25 = .ok (.aload_n 0, 1) := by decide +kernel
theorem dX12_ring_26 : decode cX12_ring 26 = .ok (.getfield 7, 3) := by decide +kernel
theorem dX12_ring_29 : decode cX12_ring 29 = .ok (.iconst 5, 1) := by decide +kernel
theorem dX12_ring_30 : decode cX12_ring 30 = .ok (.iload_n 2, 1) := by decide +kernel
theorem dX12_ring_31 : decode cX12_ring 31 = .ok (.iadd, 1) := by decide +kernel
theorem dX12_ring_32 : decode cX12_ring 32 = .ok (.iaload, 1) := by decide +kernel
theorem dX12_ring_33 : decode cX12_ring 33 = .ok (.istore_n 2, 1) := by decide +kernel
theorem dX12_ring_34 : decode cX12_ring 34 = .ok (.iload_n 2, 1) := by decide +kernel
theorem dX12_ring_35 : decode cX12_ring 35 = .ok (.iconst (-1), 1) := by decide +kernel
theorem dX12_ring_36 : decode cX12_ring 36 = .ok (.if_icmp .eq 8, 3) := by decide +kernel
theorem dX12_ring_39 : decode cX12_ring 39 = .ok (.iload_n 2, 1) := by decide +kernel
theorem dX12_ring_40 : decode cX12_ring 40 = .ok (.iload_n 1, 1) := by decide +kernel
theorem dX12_ring_41 : decode cX12_ring 41 = .ok (.if_icmp .ne 14, 3) := by decide +kernel
theorem dX12_ring_44 : decode cX12_ring 44 = .ok (.iload_n 2, 1) := by decide +kernel
theorem dX12_ring_45 : decode cX12_ring 45 = .ok (.iload_n 1, 1) := by decide +kernel
theorem dX12_ring_46 : decode cX12_ring 46 = .ok (.if_icmp .ne 7, 3) := by decide +kernel
theorem dX12_ring_49 : decode cX12_ring 49 = .ok (.iload_n 3, 1) := by decide +kernel
theorem dX12_ring_50 : decode cX12_ring 50 = .ok (.goto 4, 3) := by decide +kernel
theorem dX12_ring_53 : decode cX12_ring 53 = .ok (.iconst 0, 1) := by decide +kernel
theorem dX12_ring_54 : decode cX12_ring 54 = .ok (.ireturn, 1) := by decide +kernel
theorem dX12_ring_55 : decode cX12_ring 55 = .ok (.iinc 3 1, 3) := by decide +kernel
theorem dX12_ring_58 : decode cX12_ring 58 = .ok (.goto (-39), 3) := by decide +kernel
theorem dX12_ring_61 : decode cX12_ring 61 = .ok (.iconst 0, 1) := by decide +kernel
theorem dX12_ring_62 : decode cX12_ring 62 = .ok (.ireturn, 1) := by decide +kernel
theorem dX12_deed_0 : decode cX12_deed 0 = .ok (.aload_n 0, 1) := by decide +kernel
theorem dX12_deed_1 : decode cX12_deed 1 = .ok (.iload_n 1, 1) := by decide +kernel
theorem dX12_deed_2 : decode cX12_deed 2 = .ok (.invokevirtual 97, 3) := by decide +kernel
theorem dX12_deed_5 : decode cX12_deed 5 = .ok (.ifCond .eq 15, 3) := by decide +kernel
theorem dX12_deed_8 : decode cX12_deed 8 = .ok (.iload_n 2, 1) := by decide +kernel
theorem dX12_deed_9 : decode cX12_deed 9 = .ok (.i2l, 1) := by decide +kernel
theorem dX12_deed_10 : decode cX12_deed 10 = .ok (.lconst 1, 1) := by decide +kernel
theorem dX12_deed_11 : decode cX12_deed 11 = .ok (.ldc2_w 142, 3) := by decide +kernel
theorem dX12_deed_14 : decode cX12_deed 14 = .ok (.invokestatic 50, 3) := by decide +kernel
theorem dX12_deed_17 : decode cX12_deed 17 = .ok (.ifCond .ne 10, 3) := by decide +kernel
theorem dX12_deed_20 : decode cX12_deed 20 = .ok (.aload_n 0, 1) := by decide +kernel
theorem dX12_deed_21 : decode cX12_deed 21 = .ok (.bipush (-2), 2) := by decide +kernel
theorem dX12_deed_23 : decode cX12_deed 23 = .ok (.invokevirtual 58, 3) := by decide +kernel
theorem dX12_deed_26 : decode cX12_deed 26 = .ok (.ireturn, 1) := by decide +kernel
theorem dX12_deed_27 : decode cX12_deed 27 = .ok (.aload_n 0, 1) := by decide +kernel
theorem dX12_deed_28 : decode cX12_deed 28 = .ok (.getfield 7, 3) := by decide +kernel
theorem dX12_deed_31 : decode cX12_deed 31 = .ok (.iconst 2, 1) := by decide +kernel
theorem dX12_deed_32 : decode cX12_deed 32 = .ok (.iaload, 1) := by decide +kernel
theorem dX12_deed_33 : decode cX12_deed 33 = .ok (.bipush 6, 2) := by decide +kernel
theorem dX12_deed_35 : decode cX12_deed 35 = .ok (.if_icmp .ne 8, 3) := by decide +kernel
theorem dX12_deed_38 : decode cX12_deed 38 = .ok (.aload_n 0, 1) := by decide +kernel
theorem dX12_deed_39 : decode cX12_deed 39 = .ok (.invokevirtual 68, 3) := by decide +kernel
theorem dX12_deed_42 : decode cX12_deed 42 = .ok (.ireturn, 1) := by decide +kernel
theorem dX12_deed_43 : decode cX12_deed 43 = .ok (.aload_n 0, 1) := by decide +kernel
theorem dX12_deed_44 : decode cX12_deed 44 = .ok (.getfield 7, 3) := by decide +kernel
theorem dX12_deed_47 : decode cX12_deed 47 = .ok (.bipush 26, 2) := by decide +kernel
theorem dX12_deed_49 : decode cX12_deed 49 = .ok (.iconst 2, 1) := by decide +kernel
theorem dX12_deed_50 : decode cX12_deed 50 = .ok (.aload_n 0, 1) := by decide +kernel
theorem dX12_deed_51 : decode cX12_deed 51 = .ok (.getfield 7, 3) := by decide +kernel
theorem dX12_deed_54 : decode cX12_deed 54 = .ok (.iconst 2, 1) := by decide +kernel
theorem dX12_deed_55 : decode cX12_deed 55 = .ok (.iaload, 1) := by decide +kernel
theorem dX12_deed_56 : decode cX12_deed 56 = .ok (.imul, 1) := by decide +kernel
theorem dX12_deed_57 : decode cX12_deed 57 = .ok (.iadd, 1) := by decide +kernel
theorem dX12_deed_58 : decode cX12_deed 58 = .ok (.iload_n 1, 1) := by decide +kernel
theorem dX12_deed_59 : decode cX12_deed 59 = .ok (.iastore, 1) := by decide +kernel
theorem dX12_deed_60 : decode cX12_deed 60 = .ok (.aload_n 0, 1) := by decide +kernel
theorem dX12_deed_61 : decode cX12_deed 61 = .ok (.getfield 7, 3) := by decide +kernel
theorem dX12_deed_64 : decode cX12_deed 64 = .ok (.bipush 26, 2) := by decide +kernel
theorem dX12_deed_66 : decode cX12_deed 66 = .ok (.iconst 2, 1) := by decide +kernel
theorem dX12_deed_67 : decode cX12_deed 67 = .ok (.aload_n 0, 1) := by decide +kernel
theorem dX12_deed_68 : decode cX12_deed 68 = .ok (.getfield 7, 3) := by decide +kernel
theorem dX12_deed_71 : decode cX12_deed 71 = .ok (.iconst 2, 1) := by decide +kernel
theorem dX12_deed_72 : decode cX12_deed 72 = .ok (.iaload, 1) := by decide +kernel
theorem dX12_deed_73 : decode cX12_deed 73 = .ok (.imul, 1) := by decide +kernel
theorem dX12_deed_74 : decode cX12_deed 74 = .ok (.iadd, 1) := by decide +kernel
theorem dX12_deed_75 : decode cX12_deed 75 = .ok (.iconst 1, 1) := by decide +kernel
theorem dX12_deed_76 : decode cX12_deed 76 = .ok (.iadd, 1) := by decide +kernel
theorem dX12_deed_77 : decode cX12_deed 77 = .ok (.iload_n 2, 1) := by decide +kernel
theorem dX12_deed_78 : decode cX12_deed 78 = .ok (.iastore, 1) := by decide +kernel
theorem dX12_deed_79 : decode cX12_deed 79 = .ok (.aload_n 0, 1) := by decide +kernel
theorem dX12_deed_80 : decode cX12_deed 80 = .ok (.getfield 7, 3) := by decide +kernel
theorem dX12_deed_83 : decode cX12_deed 83 = .ok (.iconst 2, 1) := by decide +kernel
theorem dX12_deed_84 : decode cX12_deed 84 = .ok (.dup2, 1) := by decide +kernel
theorem dX12_deed_85 : decode cX12_deed 85 = .ok (.iaload, 1) := by decide +kernel
theorem dX12_deed_86 : decode cX12_deed 86 = .ok (.iconst 1, 1) := by decide +kernel
theorem dX12_deed_87 : decode cX12_deed 87 = .ok (.iadd, 1) := by decide +kernel
theorem dX12_deed_88 : decode cX12_deed 88 = .ok (.iastore, 1) := by decide +kernel
theorem dX12_deed_89 : decode cX12_deed 89 = .ok (.aload_n 0, 1) := by decide +kernel
theorem dX12_deed_90 : decode cX12_deed 90 = .ok (.getfield 7, 3) := by decide +kernel
theorem dX12_deed_93 : decode cX12_deed 93 = .ok (.iconst 2, 1) := by decide +kernel
theorem dX12_deed_94 : decode cX12_deed 94 = .ok (.iaload, 1) := by decide +kernel
theorem dX12_deed_95 : decode cX12_deed 95 = .ok (.ireturn, 1) := by decide +kernel
theorem dX12_penceOn_0 : decode cX12_penceOn 0 = .ok (.iconst 0, 1) := by decide +kernel
theorem dX12_penceOn_1 : decode cX12_penceOn 1 = .ok (.istore_n 2, 1) := by decide +kernel
theorem dX12_penceOn_2 : decode cX12_penceOn 2 = .ok (.iconst 0, 1) := by decide +kernel
theorem dX12_penceOn_3 : decode cX12_penceOn 3 = .ok (.istore_n 3, 1) := by decide +kernel
theorem dX12_penceOn_4 : decode cX12_penceOn 4 = .ok (.iload_n 3, 1) := by decide +kernel
theorem dX12_penceOn_5 : decode cX12_penceOn 5 = .ok (.aload_n 0, 1) := by decide +kernel
theorem dX12_penceOn_6 : decode cX12_penceOn 6 = .ok (.getfield 7, 3) := by decide +kernel
theorem dX12_penceOn_9 : decode cX12_penceOn 9 = .ok (.iconst 2, 1) := by decide +kernel
theorem dX12_penceOn_10 : decode cX12_penceOn 10 = .ok (.iaload, 1) := by decide +kernel
theorem dX12_penceOn_11 : decode cX12_penceOn 11 = .ok (.if_icmp .ge 44, 3) := by decide +kernel
theorem dX12_penceOn_14 : decode cX12_penceOn 14 = .ok (.iload_n 2, 1) := by decide +kernel
theorem dX12_penceOn_15 : decode cX12_penceOn 15 = .ok (.aload_n 0, 1) := by decide +kernel
theorem dX12_penceOn_16 : decode cX12_penceOn 16 = .ok (.getfield 7, 3) := by decide +kernel
theorem dX12_penceOn_19 : decode cX12_penceOn 19 = .ok (.bipush 26, 2) := by decide +kernel
theorem dX12_penceOn_21 : decode cX12_penceOn 21 = .ok (.iconst 2, 1) := by decide +kernel
theorem dX12_penceOn_22 : decode cX12_penceOn 22 = .ok (.iload_n 3, 1) := by decide +kernel
theorem dX12_penceOn_23 : decode cX12_penceOn 23 = .ok (.imul, 1) := by decide +kernel
theorem dX12_penceOn_24 : decode cX12_penceOn 24 = .ok (.iadd, 1) := by decide +kernel
theorem dX12_penceOn_25 : decode cX12_penceOn 25 = .ok (.iaload, 1) := by decide +kernel
theorem dX12_penceOn_26 : decode cX12_penceOn 26 = .ok (.iload_n 1, 1) := by decide +kernel
theorem dX12_penceOn_27 : decode cX12_penceOn 27 = .ok (.if_icmp .ne 19, 3) := by decide +kernel
theorem dX12_penceOn_30 : decode cX12_penceOn 30 = .ok (.aload_n 0, 1) := by decide +kernel
theorem dX12_penceOn_31 : decode cX12_penceOn 31 = .ok (.getfield 7, 3) := by decide +kernel
theorem dX12_penceOn_34 : decode cX12_penceOn 34 = .ok (.bipush 26, 2) := by decide +kernel
theorem dX12_penceOn_36 : decode cX12_penceOn 36 = .ok (.iconst 2, 1) := by decide +kernel
theorem dX12_penceOn_37 : decode cX12_penceOn 37 = .ok (.iload_n 3, 1) := by decide +kernel
theorem dX12_penceOn_38 : decode cX12_penceOn 38 = .ok (.imul, 1) := by decide +kernel
theorem dX12_penceOn_39 : decode cX12_penceOn 39 = .ok (.iadd, 1) := by decide +kernel
theorem dX12_penceOn_40 : decode cX12_penceOn 40 = .ok (.iconst 1, 1) := by decide +kernel
theorem dX12_penceOn_41 : decode cX12_penceOn 41 = .ok (.iadd, 1) := by decide +kernel
theorem dX12_penceOn_42 : decode cX12_penceOn 42 = .ok (.iaload, 1) := by decide +kernel
theorem dX12_penceOn_43 : decode cX12_penceOn 43 = .ok (.goto 4, 3) := by decide +kernel
theorem dX12_penceOn_46 : decode cX12_penceOn 46 = .ok (.iconst 0, 1) := by decide +kernel
theorem dX12_penceOn_47 : decode cX12_penceOn 47 = .ok (.iadd, 1) := by decide +kernel
theorem dX12_penceOn_48 : decode cX12_penceOn 48 = .ok (.istore_n 2, 1) := by decide +kernel
theorem dX12_penceOn_49 : decode cX12_penceOn 49 = .ok (.iinc 3 1, 3) := by decide +kernel
theorem dX12_penceOn_52 : decode cX12_penceOn 52 = .ok (.goto (-48), 3) := by decide +kernel
theorem dX12_penceOn_55 : decode cX12_penceOn 55 = .ok (.iload_n 2, 1) := by decide +kernel
theorem dX12_penceOn_56 : decode cX12_penceOn 56 = .ok (.ireturn, 1) := by decide +kernel
theorem dX12_fraction_0 : decode cX12_fraction 0 = .ok (.lload_n 1, 1) := by decide +kernel
theorem dX12_fraction_1 : decode cX12_fraction 1 = .ok (.lstore 5, 2) := by decide +kernel
theorem dX12_fraction_3 : decode cX12_fraction 3 = .ok (.lload_n 3, 1) := by decide +kernel
theorem dX12_fraction_4 : decode cX12_fraction 4 = .ok (.lstore 7, 2) := by decide +kernel
theorem dX12_fraction_6 : decode cX12_fraction 6 = .ok (.lload 7, 2) := by decide +kernel
theorem dX12_fraction_8 : decode cX12_fraction 8 = .ok (.lconst 0, 1) := by decide +kernel
theorem dX12_fraction_9 : decode cX12_fraction 9 = .ok (.lcmp, 1) := by decide +kernel
theorem dX12_fraction_10 : decode cX12_fraction 10 = .ok (.ifCond .eq 21, 3) := by decide +kernel
theorem dX12_fraction_13 : decode cX12_fraction 13 = .ok (.lload 5, 2) := by decide +kernel
theorem dX12_fraction_15 : decode cX12_fraction 15 = .ok (.lload 7, 2) := by decide +kernel
theorem dX12_fraction_17 : decode cX12_fraction 17 = .ok (.lrem, 1) := by decide +kernel
theorem dX12_fraction_18 : decode cX12_fraction 18 = .ok (.lstore 9, 2) := by decide +kernel
theorem dX12_fraction_20 : decode cX12_fraction 20 = .ok (.lload 7, 2) := by decide +kernel
theorem dX12_fraction_22 : decode cX12_fraction 22 = .ok (.lstore 5, 2) := by decide +kernel
theorem dX12_fraction_24 : decode cX12_fraction 24 = .ok (.lload 9, 2) := by decide +kernel
theorem dX12_fraction_26 : decode cX12_fraction 26 = .ok (.lstore 7, 2) := by decide +kernel
theorem dX12_fraction_28 : decode cX12_fraction 28 = .ok (.goto (-22), 3) := by decide +kernel
theorem dX12_fraction_31 : decode cX12_fraction 31 = .ok (.aload_n 0, 1) := by decide +kernel
theorem dX12_fraction_32 : decode cX12_fraction 32 = .ok (.lload_n 1, 1) := by decide +kernel
theorem dX12_fraction_33 : decode cX12_fraction 33 = .ok (.lload 5, 2) := by decide +kernel
theorem dX12_fraction_35 : decode cX12_fraction 35 = .ok (.ldiv, 1) := by decide +kernel
theorem dX12_fraction_36 : decode cX12_fraction 36 = .ok (.putfield 144, 3) := by decide +kernel
theorem dX12_fraction_39 : decode cX12_fraction 39 = .ok (.aload_n 0, 1) := by decide +kernel
theorem dX12_fraction_40 : decode cX12_fraction 40 = .ok (.lload_n 3, 1) := by decide +kernel
theorem dX12_fraction_41 : decode cX12_fraction 41 = .ok (.lload 5, 2) := by decide +kernel
theorem dX12_fraction_43 : decode cX12_fraction 43 = .ok (.ldiv, 1) := by decide +kernel
theorem dX12_fraction_44 : decode cX12_fraction 44 = .ok (.putfield 23, 3) := by decide +kernel
theorem dX12_fraction_47 : decode cX12_fraction 47 = .ok (.return_, 1) := by decide +kernel
theorem dX12_owes_0 : decode cX12_owes 0 = .ok (.aload_n 0, 1) := by decide +kernel
theorem dX12_owes_1 : decode cX12_owes 1 = .ok (.iload_n 1, 1) := by decide +kernel
theorem dX12_owes_2 : decode cX12_owes 2 = .ok (.invokevirtual 97, 3) := by decide +kernel
theorem dX12_owes_5 : decode cX12_owes 5 = .ok (.ifCond .ne 10, 3) := by decide +kernel
theorem dX12_owes_8 : decode cX12_owes 8 = .ok (.aload_n 0, 1) := by decide +kernel
theorem dX12_owes_9 : decode cX12_owes 9 = .ok (.bipush (-2), 2) := by decide +kernel
theorem dX12_owes_11 : decode cX12_owes 11 = .ok (.invokevirtual 58, 3) := by decide +kernel
theorem dX12_owes_14 : decode cX12_owes 14 = .ok (.ireturn, 1) := by decide +kernel
theorem dX12_owes_15 : decode cX12_owes 15 = .ok (.aload_n 0, 1) := by decide +kernel
theorem dX12_owes_16 : decode cX12_owes 16 = .ok (.getfield 7, 3) := by decide +kernel
theorem dX12_owes_19 : decode cX12_owes 19 = .ok (.iconst 5, 1) := by decide +kernel
theorem dX12_owes_20 : decode cX12_owes 20 = .ok (.iload_n 1, 1) := by decide +kernel
theorem dX12_owes_21 : decode cX12_owes 21 = .ok (.iadd, 1) := by decide +kernel
theorem dX12_owes_22 : decode cX12_owes 22 = .ok (.iaload, 1) := by decide +kernel
theorem dX12_owes_23 : decode cX12_owes 23 = .ok (.istore_n 2, 1) := by decide +kernel
theorem dX12_owes_24 : decode cX12_owes 24 = .ok (.aload_n 0, 1) := by decide +kernel
theorem dX12_owes_25 : decode cX12_owes 25 = .ok (.invokevirtual 103, 3) := by decide +kernel
theorem dX12_owes_28 : decode cX12_owes 28 = .ok (.iload_n 2, 1) := by decide +kernel
theorem dX12_owes_29 : decode cX12_owes 29 = .ok (.iconst (-1), 1) := by decide +kernel
theorem dX12_owes_30 : decode cX12_owes 30 = .ok (.if_icmp .ne 12, 3) := by decide +kernel
theorem dX12_owes_33 : decode cX12_owes 33 = .ok (.aload_n 0, 1) := by decide +kernel
theorem dX12_owes_34 : decode cX12_owes 34 = .ok (.lconst 0, 1) := by decide +kernel
theorem dX12_owes_35 : decode cX12_owes 35 = .ok (.lconst 1, 1) := by decide +kernel
theorem dX12_owes_36 : decode cX12_owes 36 = .ok (.invokevirtual 147, 3) := by decide +kernel
theorem dX12_owes_39 : decode cX12_owes 39 = .ok (.goto 22, 3) := by decide +kernel
theorem dX12_owes_42 : decode cX12_owes 42 = .ok (.aload_n 0, 1) := by decide +kernel
theorem dX12_owes_43 : decode cX12_owes 43 = .ok (.aload_n 0, 1) := by decide +kernel
theorem dX12_owes_44 : decode cX12_owes 44 = .ok (.iload_n 2, 1) := by decide +kernel
theorem dX12_owes_45 : decode cX12_owes 45 = .ok (.invokevirtual 151, 3) := by decide +kernel
theorem dX12_owes_48 : decode cX12_owes 48 = .ok (.i2l, 1) := by decide +kernel
theorem dX12_owes_49 : decode cX12_owes 49 = .ok (.aload_n 0, 1) := by decide +kernel
theorem dX12_owes_50 : decode cX12_owes 50 = .ok (.iload_n 2, 1) := by decide +kernel
theorem dX12_owes_51 : decode cX12_owes 51 = .ok (.invokevirtual 75, 3) := by decide +kernel
theorem dX12_owes_54 : decode cX12_owes 54 = .ok (.invokestatic 114, 3) := by decide +kernel
theorem dX12_owes_57 : decode cX12_owes 57 = .ok (.i2l, 1) := by decide +kernel
theorem dX12_owes_58 : decode cX12_owes 58 = .ok (.invokevirtual 147, 3) := by decide +kernel
theorem dX12_owes_61 : decode cX12_owes 61 = .ok (.iconst 1, 1) := by decide +kernel
theorem dX12_owes_62 : decode cX12_owes 62 = .ok (.ireturn, 1) := by decide +kernel
theorem dX12_unpaid_0 : decode cX12_unpaid 0 = .ok (.iconst 0, 1) := by decide +kernel
theorem dX12_unpaid_1 : decode cX12_unpaid 1 = .ok (.istore_n 1, 1) := by decide +kernel
theorem dX12_unpaid_2 : decode cX12_unpaid 2 = .ok (.aload_n 0, 1) := by decide +kernel
theorem dX12_unpaid_3 : decode cX12_unpaid 3 = .ok (.invokevirtual 103, 3) := by decide +kernel
theorem dX12_unpaid_6 : decode cX12_unpaid 6 = .ok (.iconst 0, 1) := by decide +kernel
theorem dX12_unpaid_7 : decode cX12_unpaid 7 = .ok (.istore_n 2, 1) := by decide +kernel
theorem dX12_unpaid_8 : decode cX12_unpaid 8 = .ok (.iload_n 2, 1) := by decide +kernel
theorem dX12_unpaid_9 : decode cX12_unpaid 9 = .ok (.aload_n 0, 1) := by decide +kernel
theorem dX12_unpaid_10 : decode cX12_unpaid 10 = .ok (.invokevirtual 46, 3) := by decide +kernel
theorem dX12_unpaid_13 : decode cX12_unpaid 13 = .ok (.if_icmp .ge 29, 3) := by decide +kernel
theorem dX12_unpaid_16 : decode cX12_unpaid 16 = .ok (.iload_n 1, 1) := by decide +kernel
theorem dX12_unpaid_17 : decode cX12_unpaid 17 = .ok (.aload_n 0, 1) := by decide +kernel
theorem dX12_unpaid_18 : decode cX12_unpaid 18 = .ok (.iload_n 2, 1) := by decide +kernel
theorem dX12_unpaid_19 : decode cX12_unpaid 19 = .ok (.invokevirtual 75, 3) := by decide +kernel
theorem dX12_unpaid_22 : decode cX12_unpaid 22 = .ok (.ifCond .ne 11, 3) := by decide +kernel
theorem dX12_unpaid_25 : decode cX12_unpaid 25 = .ok (.aload_n 0, 1) := by decide +kernel
theorem dX12_unpaid_26 : decode cX12_unpaid 26 = .ok (.iload_n 2, 1) := by decide +kernel
theorem dX12_unpaid_27 : decode cX12_unpaid 27 = .ok (.invokevirtual 151, 3) := by decide +kernel
theorem dX12_unpaid_30 : decode cX12_unpaid 30 = .ok (.goto 4, 3) := by decide +kernel
theorem dX12_unpaid_33 : decode cX12_unpaid 33 = .ok (.iconst 0, 1) := by decide +kernel
theorem dX12_unpaid_34 : decode cX12_unpaid 34 = .ok (.iadd, 1) := by decide +kernel
theorem dX12_unpaid_35 : decode cX12_unpaid 35 = .ok (.istore_n 1, 1) := by decide +kernel
theorem dX12_unpaid_36 : decode cX12_unpaid 36 = .ok (.iinc 2 1, 3) := by decide +kernel
theorem dX12_unpaid_39 : decode cX12_unpaid 39 = .ok (.goto (-31), 3) := by decide +kernel
theorem dX12_unpaid_42 : decode cX12_unpaid 42 = .ok (.iload_n 1, 1) := by decide +kernel
theorem dX12_unpaid_43 : decode cX12_unpaid 43 = .ok (.ireturn, 1) := by decide +kernel
theorem dX12_ears_0 : decode cX12_ears 0 = .ok (.aload_n 0, 1) := by decide +kernel
theorem dX12_ears_1 : decode cX12_ears 1 = .ok (.iload_n 1, 1) := by decide +kernel
theorem dX12_ears_2 : decode cX12_ears 2 = .ok (.invokevirtual 97, 3) := by decide +kernel
theorem dX12_ears_5 : decode cX12_ears 5 = .ok (.ifCond .eq 32, 3) := by decide +kernel
theorem dX12_ears_8 : decode cX12_ears 8 = .ok (.aload_n 0, 1) := by decide +kernel
theorem dX12_ears_9 : decode cX12_ears 9 = .ok (.iload_n 2, 1) := by decide +kernel
theorem dX12_ears_10 : decode cX12_ears 10 = .ok (.invokevirtual 97, 3) := by decide +kernel
theorem dX12_ears_13 : decode cX12_ears 13 = .ok (.ifCond .eq 24, 3) := by decide +kernel
theorem dX12_ears_16 : decode cX12_ears 16 = .ok (.iload_n 1, 1) := by decide +kernel
theorem dX12_ears_17 : decode cX12_ears 17 = .ok (.iload_n 2, 1) := by decide +kernel
theorem dX12_ears_18 : decode cX12_ears 18 = .ok (.if_icmp .eq 19, 3) := by decide +kernel
theorem dX12_ears_21 : decode cX12_ears 21 = .ok (.aload_n 0, 1) := by decide +kernel
theorem dX12_ears_22 : decode cX12_ears 22 = .ok (.iload_n 3, 1) := by decide +kernel
theorem dX12_ears_23 : decode cX12_ears 23 = .ok (.invokevirtual 97, 3) := by decide +kernel
theorem dX12_ears_26 : decode cX12_ears 26 = .ok (.ifCond .eq 11, 3) := by decide +kernel
theorem dX12_ears_29 : decode cX12_ears 29 = .ok (.iload 4, 2) := by decide +kernel
theorem dX12_ears_31 : decode cX12_ears 31 = .ok (.invokestatic 64, 3) := by decide +kernel
theorem dX12_ears_34 : decode cX12_ears 34 = .ok (.ifCond .ne 10, 3) := by decide +kernel
theorem dX12_ears_37 : decode cX12_ears 37 = .ok (.aload_n 0, 1) := by decide +kernel
theorem dX12_ears_38 : decode cX12_ears 38 = .ok (.bipush (-2), 2) := by decide +kernel
theorem dX12_ears_40 : decode cX12_ears 40 = .ok (.invokevirtual 58, 3) := by decide +kernel
theorem dX12_ears_43 : decode cX12_ears 43 = .ok (.ireturn, 1) := by decide +kernel
theorem dX12_ears_44 : decode cX12_ears 44 = .ok (.iconst 0, 1) := by decide +kernel
theorem dX12_ears_45 : decode cX12_ears 45 = .ok (.istore 5, 2) := by decide +kernel
theorem dX12_ears_47 : decode cX12_ears 47 = .ok (.iload 5, 2) := by decide +kernel
theorem dX12_ears_49 : decode cX12_ears 49 = .ok (.iconst 4, 1) := by decide +kernel
theorem dX12_ears_50 : decode cX12_ears 50 = .ok (.if_icmp .ge 55, 3) := by decide +kernel
theorem dX12_ears_53 : decode cX12_ears 53 = .ok (.aload_n 0, 1) := by decide +kernel
theorem dX12_ears_54 : decode cX12_ears 54 = .ok (.invokevirtual 103, 3) := by decide +kernel
theorem dX12_ears_57 : decode cX12_ears 57 = .ok (.aload_n 0, 1) := by decide +kernel
theorem dX12_ears_58 : decode cX12_ears 58 = .ok (.iload_n 3, 1) := by decide +kernel
theorem dX12_ears_59 : decode cX12_ears 59 = .ok (.aload_n 0, 1) := by decide +kernel
theorem dX12_ears_60 : decode cX12_ears 60 = .ok (.iload_n 3, 1) := by decide +kernel
theorem dX12_ears_61 : decode cX12_ears 61 = .ok (.iload 4, 2) := by decide +kernel
theorem dX12_ears_63 : decode cX12_ears 63 = .ok (.invokevirtual 90, 3) := by decide +kernel
theorem dX12_ears_66 : decode cX12_ears 66 = .ok (.iload 5, 2) := by decide +kernel
theorem dX12_ears_68 : decode cX12_ears 68 = .ok (.iconst 1, 1) := by decide +kernel
theorem dX12_ears_69 : decode cX12_ears 69 = .ok (.iand, 1) := by decide +kernel
theorem dX12_ears_70 : decode cX12_ears 70 = .ok (.iload_n 1, 1) := by decide +kernel
theorem dX12_ears_71 : decode cX12_ears 71 = .ok (.ishl, 1) := by decide +kernel
theorem dX12_ears_72 : decode cX12_ears 72 = .ok (.iconst (-1), 1) := by decide +kernel
theorem dX12_ears_73 : decode cX12_ears 73 = .ok (.ixor, 1) := by decide +kernel
theorem dX12_ears_74 : decode cX12_ears 74 = .ok (.iand, 1) := by decide +kernel
theorem dX12_ears_75 : decode cX12_ears 75 = .ok (.iload 5, 2) := by decide +kernel
theorem dX12_ears_77 : decode cX12_ears 77 = .ok (.iconst 1, 1) := by decide +kernel
theorem dX12_ears_78 : decode cX12_ears 78 = .ok (.ishr, 1) := by decide +kernel
theorem dX12_ears_79 : decode cX12_ears 79 = .ok (.iload_n 2, 1) := by decide +kernel
theorem dX12_ears_80 : decode cX12_ears 80 = .ok (.ishl, 1) := by decide +kernel
theorem dX12_ears_81 : decode cX12_ears 81 = .ok (.iconst (-1), 1) := by decide +kernel
theorem dX12_ears_82 : decode cX12_ears 82 = .ok (.ixor, 1) := by decide +kernel
theorem dX12_ears_83 : decode cX12_ears 83 = .ok (.iand, 1) := by decide +kernel
theorem dX12_ears_84 : decode cX12_ears 84 = .ok (.invokevirtual 93, 3) := by decide +kernel
theorem dX12_ears_87 : decode cX12_ears 87 = .ok (.aload_n 0, 1) := by decide +kernel
theorem dX12_ears_88 : decode cX12_ears 88 = .ok (.getfield 30, 3) := by decide +kernel
theorem dX12_ears_91 : decode cX12_ears 91 = .ok (.iload 5, 2) := by decide +kernel
theorem dX12_ears_93 : decode cX12_ears 93 = .ok (.aload_n 0, 1) := by decide +kernel
theorem dX12_ears_94 : decode cX12_ears 94 = .ok (.iload_n 3, 1) := by decide +kernel
theorem dX12_ears_95 : decode cX12_ears 95 = .ok (.invokevirtual 75, 3) := by decide +kernel
theorem dX12_ears_98 : decode cX12_ears 98 = .ok (.iastore, 1) := by decide +kernel
theorem dX12_ears_99 : decode cX12_ears 99 = .ok (.iinc 5 1, 3) := by decide +kernel
theorem dX12_ears_102 : decode cX12_ears 102 = .ok (.goto (-55), 3) := by decide +kernel
theorem dX12_ears_105 : decode cX12_ears 105 = .ok (.iconst 0, 1) := by decide +kernel
theorem dX12_ears_106 : decode cX12_ears 106 = .ok (.istore 5, 2) := by decide +kernel
theorem dX12_ears_108 : decode cX12_ears 108 = .ok (.iconst 0, 1) := by decide +kernel
theorem dX12_ears_109 : decode cX12_ears 109 = .ok (.istore 6, 2) := by decide +kernel
theorem dX12_ears_111 : decode cX12_ears 111 = .ok (.iload 6, 2) := by decide +kernel
theorem dX12_ears_113 : decode cX12_ears 113 = .ok (.iconst 4, 1) := by decide +kernel
theorem dX12_ears_114 : decode cX12_ears 114 = .ok (.if_icmp .ge 106, 3) := by decide +kernel
theorem dX12_ears_117 : decode cX12_ears 117 = .ok (.aload_n 0, 1) := by decide +kernel
theorem dX12_ears_118 : decode cX12_ears 118 = .ok (.getfield 30, 3) := by decide +kernel
theorem dX12_ears_121 : decode cX12_ears 121 = .ok (.iload 6, 2) := by decide +kernel
theorem dX12_ears_123 : decode cX12_ears 123 = .ok (.iaload, 1) := by decide +kernel
theorem dX12_ears_124 : decode cX12_ears 124 = .ok (.iload_n 1, 1) := by decide +kernel
theorem dX12_ears_125 : decode cX12_ears 125 = .ok (.invokestatic 82, 3) := by decide +kernel
theorem dX12_ears_128 : decode cX12_ears 128 = .ok (.ifCond .ne 19, 3) := by decide +kernel
theorem dX12_ears_131 : decode cX12_ears 131 = .ok (.aload_n 0, 1) := by decide +kernel
theorem dX12_ears_132 : decode cX12_ears 132 = .ok (.getfield 30, 3) := by decide +kernel
theorem dX12_ears_135 : decode cX12_ears 135 = .ok (.iload 6, 2) := by decide +kernel
theorem dX12_ears_137 : decode cX12_ears 137 = .ok (.iconst 1, 1) := by decide +kernel
theorem dX12_ears_138 : decode cX12_ears 138 = .ok (.ixor, 1) := by decide +kernel
