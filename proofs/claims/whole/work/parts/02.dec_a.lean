theorem dX0_init_0 : decode cX0_init 0 = .ok (.aload_n 0, 1) := by decide +kernel
theorem dX0_init_1 : decode cX0_init 1 = .ok (.invokespecial 1, 3) := by decide +kernel
theorem dX0_init_4 : decode cX0_init 4 = .ok (.return_, 1) := by decide +kernel
theorem dX0_turns_0 : decode cX0_turns 0 = .ok (.iload_n 2, 1) := by decide +kernel
theorem dX0_turns_1 : decode cX0_turns 1 = .ok (.ifCond .eq 19, 3) := by decide +kernel
theorem dX0_turns_4 : decode cX0_turns 4 = .ok (.aload_n 0, 1) := by decide +kernel
theorem dX0_turns_5 : decode cX0_turns 5 = .ok (.iload_n 1, 1) := by decide +kernel
theorem dX0_turns_6 : decode cX0_turns 6 = .ok (.iload_n 2, 1) := by decide +kernel
theorem dX0_turns_7 : decode cX0_turns 7 = .ok (.iload_n 3, 1) := by decide +kernel
theorem dX0_turns_8 : decode cX0_turns 8 = .ok (.iload 4, 2) := by decide +kernel
theorem dX0_turns_10 : decode cX0_turns 10 = .ok (.invokespecial 7, 3) := by decide +kernel
theorem dX0_turns_13 : decode cX0_turns 13 = .ok (.ifCond .eq 7, 3) := by decide +kernel
theorem dX0_turns_16 : decode cX0_turns 16 = .ok (.iconst 1, 1) := by decide +kernel
theorem dX0_turns_17 : decode cX0_turns 17 = .ok (.goto 4, 3) := by decide +kernel
theorem dX0_turns_20 : decode cX0_turns 20 = .ok (.iconst 0, 1) := by decide +kernel
theorem dX0_turns_21 : decode cX0_turns 21 = .ok (.ireturn, 1) := by decide +kernel
theorem dX1_init_0 : decode cX1_init 0 = .ok (.aload_n 0, 1) := by decide +kernel
theorem dX1_init_1 : decode cX1_init 1 = .ok (.invokespecial 1, 3) := by decide +kernel
theorem dX1_init_4 : decode cX1_init 4 = .ok (.return_, 1) := by decide +kernel
theorem dX1_turns_0 : decode cX1_turns 0 = .ok (.aload_n 0, 1) := by decide +kernel
theorem dX1_turns_1 : decode cX1_turns 1 = .ok (.iload_n 1, 1) := by decide +kernel
theorem dX1_turns_2 : decode cX1_turns 2 = .ok (.iconst 3, 1) := by decide +kernel
theorem dX1_turns_3 : decode cX1_turns 3 = .ok (.isub, 1) := by decide +kernel
theorem dX1_turns_4 : decode cX1_turns 4 = .ok (.iload_n 2, 1) := by decide +kernel
theorem dX1_turns_5 : decode cX1_turns 5 = .ok (.iload_n 3, 1) := by decide +kernel
theorem dX1_turns_6 : decode cX1_turns 6 = .ok (.iload 4, 2) := by decide +kernel
theorem dX1_turns_8 : decode cX1_turns 8 = .ok (.invokespecial 7, 3) := by decide +kernel
theorem dX1_turns_11 : decode cX1_turns 11 = .ok (.ireturn, 1) := by decide +kernel
theorem dX2_init_0 : decode cX2_init 0 = .ok (.aload_n 0, 1) := by decide +kernel
theorem dX2_init_1 : decode cX2_init 1 = .ok (.invokespecial 1, 3) := by decide +kernel
theorem dX2_init_4 : decode cX2_init 4 = .ok (.return_, 1) := by decide +kernel
theorem dX2_turns_0 : decode cX2_turns 0 = .ok (.aload_n 0, 1) := by decide +kernel
theorem dX2_turns_1 : decode cX2_turns 1 = .ok (.iload_n 1, 1) := by decide +kernel
theorem dX2_turns_2 : decode cX2_turns 2 = .ok (.iload_n 2, 1) := by decide +kernel
theorem dX2_turns_3 : decode cX2_turns 3 = .ok (.iload_n 3, 1) := by decide +kernel
theorem dX2_turns_4 : decode cX2_turns 4 = .ok (.iload 4, 2) := by decide +kernel
theorem dX2_turns_6 : decode cX2_turns 6 = .ok (.invokespecial 7, 3) := by decide +kernel
theorem dX2_turns_9 : decode cX2_turns 9 = .ok (.ifCond .ne 13, 3) := by decide +kernel
theorem dX2_turns_12 : decode cX2_turns 12 = .ok (.iload_n 3, 1) := by decide +kernel
theorem dX2_turns_13 : decode cX2_turns 13 = .ok (.ifCond .eq 13, 3) := by decide +kernel
theorem dX2_turns_16 : decode cX2_turns 16 = .ok (.iload_n 1, 1) := by decide +kernel
theorem dX2_turns_17 : decode cX2_turns 17 = .ok (.bipush 6, 2) := by decide +kernel
theorem dX2_turns_19 : decode cX2_turns 19 = .ok (.if_icmp .gt 7, 3) := by decide +kernel
theorem dX2_turns_22 : decode cX2_turns 22 = .ok (.iconst 1, 1) := by decide +kernel
theorem dX2_turns_23 : decode cX2_turns 23 = .ok (.goto 4, 3) := by decide +kernel
theorem dX2_turns_26 : decode cX2_turns 26 = .ok (.iconst 0, 1) := by decide +kernel
theorem dX2_turns_27 : decode cX2_turns 27 = .ok (.ireturn, 1) := by decide +kernel
theorem dX3_init_0 : decode cX3_init 0 = .ok (.aload_n 0, 1) := by decide +kernel
theorem dX3_init_1 : decode cX3_init 1 = .ok (.invokespecial 1, 3) := by decide +kernel
theorem dX3_init_4 : decode cX3_init 4 = .ok (.return_, 1) := by decide +kernel
theorem dX3_turns_0 : decode cX3_turns 0 = .ok (.aload_n 0, 1) := by decide +kernel
theorem dX3_turns_1 : decode cX3_turns 1 = .ok (.iload_n 1, 1) := by decide +kernel
theorem dX3_turns_2 : decode cX3_turns 2 = .ok (.iconst 2, 1) := by decide +kernel
theorem dX3_turns_3 : decode cX3_turns 3 = .ok (.iadd, 1) := by decide +kernel
theorem dX3_turns_4 : decode cX3_turns 4 = .ok (.iload_n 2, 1) := by decide +kernel
theorem dX3_turns_5 : decode cX3_turns 5 = .ok (.iload_n 3, 1) := by decide +kernel
theorem dX3_turns_6 : decode cX3_turns 6 = .ok (.iload 4, 2) := by decide +kernel
theorem dX3_turns_8 : decode cX3_turns 8 = .ok (.invokespecial 7, 3) := by decide +kernel
theorem dX3_turns_11 : decode cX3_turns 11 = .ok (.ireturn, 1) := by decide +kernel
theorem dX4_init_0 : decode cX4_init 0 = .ok (.aload_n 0, 1) := by decide +kernel
theorem dX4_init_1 : decode cX4_init 1 = .ok (.invokespecial 1, 3) := by decide +kernel
theorem dX4_init_4 : decode cX4_init 4 = .ok (.aload_n 0, 1) := by decide +kernel
theorem dX4_init_5 : decode cX4_init 5 = .ok (.lconst 0, 1) := by decide +kernel
theorem dX4_init_6 : decode cX4_init 6 = .ok (.putfield 7, 3) := by decide +kernel
theorem dX4_init_9 : decode cX4_init 9 = .ok (.aload_n 0, 1) := by decide +kernel
theorem dX4_init_10 : decode cX4_init 10 = .ok (.lconst 1, 1) := by decide +kernel
theorem dX4_init_11 : decode cX4_init 11 = .ok (.putfield 13, 3) := by decide +kernel
theorem dX4_init_14 : decode cX4_init 14 = .ok (.return_, 1) := by decide +kernel
theorem dX4_become_0 : decode cX4_become 0 = .ok (.lload_n 1, 1) := by decide +kernel
theorem dX4_become_1 : decode cX4_become 1 = .ok (.lconst 0, 1) := by decide +kernel
theorem dX4_become_2 : decode cX4_become 2 = .ok (.lcmp, 1) := by decide +kernel
theorem dX4_become_3 : decode cX4_become 3 = .ok (.ifCond .lt 9, 3) := by decide +kernel
theorem dX4_become_6 : decode cX4_become 6 = .ok (.lload_n 3, 1) := by decide +kernel
theorem dX4_become_7 : decode cX4_become 7 = .ok (.lconst 0, 1) := by decide +kernel
theorem dX4_become_8 : decode cX4_become 8 = .ok (.lcmp, 1) := by decide +kernel
theorem dX4_become_9 : decode cX4_become 9 = .ok (.ifCond .gt 4, 3) := by decide +kernel
theorem dX4_become_12 : decode cX4_become 12 = .ok (.return_, 1) := by decide +kernel
theorem dX4_become_13 : decode cX4_become 13 = .ok (.lload_n 1, 1) := by decide +kernel
theorem dX4_become_14 : decode cX4_become 14 = .ok (.lload_n 3, 1) := by decide +kernel
theorem dX4_become_15 : decode cX4_become 15 = .ok (.invokestatic 16, 3) := by decide +kernel
theorem dX4_become_18 : decode cX4_become 18 = .ok (.lstore 5, 2) := by decide +kernel
theorem dX4_become_20 : decode cX4_become 20 = .ok (.aload_n 0, 1) := by decide +kernel
theorem dX4_become_21 : decode cX4_become 21 = .ok (.lload_n 1, 1) := by decide +kernel
theorem dX4_become_22 : decode cX4_become 22 = .ok (.lload 5, 2) := by decide +kernel
theorem dX4_become_24 : decode cX4_become 24 = .ok (.ldiv, 1) := by decide +kernel
theorem dX4_become_25 : decode cX4_become 25 = .ok (.putfield 7, 3) := by decide +kernel
theorem dX4_become_28 : decode cX4_become 28 = .ok (.aload_n 0, 1) := by decide +kernel
theorem dX4_become_29 : decode cX4_become 29 = .ok (.lload_n 3, 1) := by decide +kernel
theorem dX4_become_30 : decode cX4_become 30 = .ok (.lload 5, 2) := by decide +kernel
theorem dX4_become_32 : decode cX4_become 32 = .ok (.ldiv, 1) := by decide +kernel
theorem dX4_become_33 : decode cX4_become 33 = .ok (.putfield 13, 3) := by decide +kernel
theorem dX4_become_36 : decode cX4_become 36 = .ok (.return_, 1) := by decide +kernel
theorem dX4_commonDivisor_0 : decode cX4_commonDivisor 0 = .ok (.lload_n 0, 1) := by decide +kernel
theorem dX4_commonDivisor_1 : decode cX4_commonDivisor 1 = .ok (.lstore 4, 2) := by decide +kernel
theorem dX4_commonDivisor_3 : decode cX4_commonDivisor 3 = .ok (.lload_n 2, 1) := by decide +kernel
theorem dX4_commonDivisor_4 : decode cX4_commonDivisor 4 = .ok (.lstore 6, 2) := by decide +kernel
theorem dX4_commonDivisor_6 : decode cX4_commonDivisor 6 = .ok (.iconst 0, 1) := by decide +kernel
theorem dX4_commonDivisor_7 : decode cX4_commonDivisor 7 = .ok (.istore 8, 2) := by decide +kernel
theorem dX4_commonDivisor_9 : decode cX4_commonDivisor 9 = .ok (.iload 8, 2) := by decide +kernel
theorem dX4_commonDivisor_11 : decode cX4_commonDivisor 11 = .ok (.sipush 200, 3) := by decide +kernel
theorem dX4_commonDivisor_14 : decode cX4_commonDivisor 14 = .ok (.if_icmp .ge 31, 3) := by decide +kernel
theorem dX4_commonDivisor_17 : decode cX4_commonDivisor 17 = .ok (.lload 6, 2) := by decide +kernel
theorem dX4_commonDivisor_19 : decode cX4_commonDivisor 19 = .ok (.lconst 0, 1) := by decide +kernel
theorem dX4_commonDivisor_20 : decode cX4_commonDivisor 20 = .ok (.lcmp, 1) := by decide +kernel
theorem dX4_commonDivisor_21 : decode cX4_commonDivisor 21 = .ok (.ifCond .eq 24, 3) := by decide +kernel
theorem dX4_commonDivisor_24 : decode cX4_commonDivisor 24 = .ok (.lload 4, 2) := by decide +kernel
theorem dX4_commonDivisor_26 : decode cX4_commonDivisor 26 = .ok (.lload 6, 2) := by decide +kernel
theorem dX4_commonDivisor_28 : decode cX4_commonDivisor 28 = .ok (.lrem, 1) := by decide +kernel
theorem dX4_commonDivisor_29 : decode cX4_commonDivisor 29 = .ok (.lstore 9, 2) := by decide +kernel
theorem dX4_commonDivisor_31 : decode cX4_commonDivisor 31 = .ok (.lload 6, 2) := by decide +kernel
theorem dX4_commonDivisor_33 : decode cX4_commonDivisor 33 = .ok (.lstore 4, 2) := by decide +kernel
theorem dX4_commonDivisor_35 : decode cX4_commonDivisor 35 = .ok (.lload 9, 2) := by decide +kernel
theorem dX4_commonDivisor_37 : decode cX4_commonDivisor 37 = .ok (.lstore 6, 2) := by decide +kernel
theorem dX4_commonDivisor_39 : decode cX4_commonDivisor 39 = .ok (.iinc 8 1, 3) := by decide +kernel
theorem dX4_commonDivisor_42 : decode cX4_commonDivisor 42 = .ok (.goto (-33), 3) := by decide +kernel
theorem dX4_commonDivisor_45 : decode cX4_commonDivisor 45 = .ok (.lload 4, 2) := by decide +kernel
theorem dX4_commonDivisor_47 : decode cX4_commonDivisor 47 = .ok (.lconst 0, 1) := by decide +kernel
theorem dX4_commonDivisor_48 : decode cX4_commonDivisor 48 = .ok (.lcmp, 1) := by decide +kernel
theorem dX4_commonDivisor_49 : decode cX4_commonDivisor 49 = .ok (.ifCond .le 8, 3) := by decide +kernel
theorem dX4_commonDivisor_52 : decode cX4_commonDivisor 52 = .ok (.lload 4, 2) := by decide +kernel
theorem dX4_commonDivisor_54 : decode cX4_commonDivisor 54 = .ok (.goto 4, 3) := by decide +kernel
theorem dX4_commonDivisor_57 : decode cX4_commonDivisor 57 = .ok (.lconst 1, 1) := by decide +kernel
theorem dX4_commonDivisor_58 : decode cX4_commonDivisor 58 = .ok (.lreturn, 1) := by decide +kernel
theorem dX5_init_0 : decode cX5_init 0 = .ok (.aload_n 0, 1) := by decide +kernel
theorem dX5_init_1 : decode cX5_init 1 = .ok (.invokespecial 3, 3) := by decide +kernel
theorem dX5_init_4 : decode cX5_init 4 = .ok (.aload_n 0, 1) := by decide +kernel
theorem dX5_init_5 : decode cX5_init 5 = .ok (.bipush 7, 2) := by decide +kernel
theorem dX5_init_7 : decode cX5_init 7 = .ok (.newarray .int, 2) := by decide +kernel
theorem dX5_init_9 : decode cX5_init 9 = .ok (.putfield 9, 3) := by decide +kernel
theorem dX5_init_12 : decode cX5_init 12 = .ok (.aload_n 0, 1) := by decide +kernel
theorem dX5_init_13 : decode cX5_init 13 = .ok (.bipush 7, 2) := by decide +kernel
theorem dX5_init_15 : decode cX5_init 15 = .ok (.newarray .int, 2) := by decide +kernel
theorem dX5_init_17 : decode cX5_init 17 = .ok (.putfield 15, 3) := by decide +kernel
theorem dX5_init_20 : decode cX5_init 20 = .ok (.aload_n 0, 1) := by decide +kernel
theorem dX5_init_21 : decode cX5_init 21 = .ok (.bipush 7, 2) := by decide +kernel
theorem dX5_init_23 : decode cX5_init 23 = .ok (.newarray .int, 2) := by decide +kernel
theorem dX5_init_25 : decode cX5_init 25 = .ok (.putfield 18, 3) := by decide +kernel
theorem dX5_init_28 : decode cX5_init 28 = .ok (.aload_n 0, 1) := by decide +kernel
theorem dX5_init_29 : decode cX5_init 29 = .ok (.bipush 6, 2) := by decide +kernel
theorem dX5_init_31 : decode cX5_init 31 = .ok (.newarray .int, 2) := by decide +kernel
theorem dX5_init_33 : decode cX5_init 33 = .ok (.putfield 21, 3) := by decide +kernel
theorem dX5_init_36 : decode cX5_init 36 = .ok (.aload_n 0, 1) := by decide +kernel
theorem dX5_init_37 : decode cX5_init 37 = .ok (.bipush 6, 2) := by decide +kernel
theorem dX5_init_39 : decode cX5_init 39 = .ok (.newarray .int, 2) := by decide +kernel
theorem dX5_init_41 : decode cX5_init 41 = .ok (.putfield 24, 3) := by decide +kernel
theorem dX5_init_44 : decode cX5_init 44 = .ok (.aload_n 0, 1) := by decide +kernel
theorem dX5_init_45 : decode cX5_init 45 = .ok (.bipush 30, 2) := by decide +kernel
theorem dX5_init_47 : decode cX5_init 47 = .ok (.newarray .int, 2) := by decide +kernel
theorem dX5_init_49 : decode cX5_init 49 = .ok (.putfield 27, 3) := by decide +kernel
theorem dX5_init_52 : decode cX5_init 52 = .ok (.aload_n 0, 1) := by decide +kernel
theorem dX5_init_53 : decode cX5_init 53 = .ok (.bipush 120, 2) := by decide +kernel
theorem dX5_init_55 : decode cX5_init 55 = .ok (.newarray .int, 2) := by decide +kernel
theorem dX5_init_57 : decode cX5_init 57 = .ok (.putfield 30, 3) := by decide +kernel
theorem dX5_init_60 : decode cX5_init 60 = .ok (.return_, 1) := by decide +kernel
theorem dX5_begin_0 : decode cX5_begin 0 = .ok (.aload_n 0, 1) := by decide +kernel
theorem dX5_begin_1 : decode cX5_begin 1 = .ok (.iload_n 1, 1) := by decide +kernel
theorem dX5_begin_2 : decode cX5_begin 2 = .ok (.putfield 33, 3) := by decide +kernel
theorem dX5_begin_5 : decode cX5_begin 5 = .ok (.aload_n 0, 1) := by decide +kernel
theorem dX5_begin_6 : decode cX5_begin 6 = .ok (.iconst 0, 1) := by decide +kernel
theorem dX5_begin_7 : decode cX5_begin 7 = .ok (.putfield 37, 3) := by decide +kernel
theorem dX5_begin_10 : decode cX5_begin 10 = .ok (.aload_n 0, 1) := by decide +kernel
theorem dX5_begin_11 : decode cX5_begin 11 = .ok (.getfield 18, 3) := by decide +kernel
theorem dX5_begin_14 : decode cX5_begin 14 = .ok (.iconst 0, 1) := by decide +kernel
theorem dX5_begin_15 : decode cX5_begin 15 = .ok (.invokestatic 40, 3) := by decide +kernel
theorem dX5_begin_18 : decode cX5_begin 18 = .ok (.aload_n 0, 1) := by decide +kernel
theorem dX5_begin_19 : decode cX5_begin 19 = .ok (.iconst 0, 1) := by decide +kernel
theorem dX5_begin_20 : decode cX5_begin 20 = .ok (.putfield 46, 3) := by decide +kernel
theorem dX5_begin_23 : decode cX5_begin 23 = .ok (.aload_n 0, 1) := by decide +kernel
theorem dX5_begin_24 : decode cX5_begin 24 = .ok (.iconst 0, 1) := by decide +kernel
theorem dX5_begin_25 : decode cX5_begin 25 = .ok (.putfield 49, 3) := by decide +kernel
theorem dX5_begin_28 : decode cX5_begin 28 = .ok (.aload_n 0, 1) := by decide +kernel
theorem dX5_begin_29 : decode cX5_begin 29 = .ok (.iconst 0, 1) := by decide +kernel
theorem dX5_begin_30 : decode cX5_begin 30 = .ok (.putfield 52, 3) := by decide +kernel
theorem dX5_begin_33 : decode cX5_begin 33 = .ok (.return_, 1) := by decide +kernel
theorem dX5_copyFrom_0 : decode cX5_copyFrom 0 = .ok (.aload_n 0, 1) := by decide +kernel
theorem dX5_copyFrom_1 : decode cX5_copyFrom 1 = .ok (.aload_n 1, 1) := by decide +kernel
theorem dX5_copyFrom_2 : decode cX5_copyFrom 2 = .ok (.getfield 33, 3) := by decide +kernel
theorem dX5_copyFrom_5 : decode cX5_copyFrom 5 = .ok (.putfield 33, 3) := by decide +kernel
theorem dX5_copyFrom_8 : decode cX5_copyFrom 8 = .ok (.aload_n 0, 1) := by decide +kernel
theorem dX5_copyFrom_9 : decode cX5_copyFrom 9 = .ok (.aload_n 1, 1) := by decide +kernel
theorem dX5_copyFrom_10 : decode cX5_copyFrom 10 = .ok (.getfield 37, 3) := by decide +kernel
theorem dX5_copyFrom_13 : decode cX5_copyFrom 13 = .ok (.putfield 37, 3) := by decide +kernel
theorem dX5_copyFrom_16 : decode cX5_copyFrom 16 = .ok (.aload_n 0, 1) := by decide +kernel
theorem dX5_copyFrom_17 : decode cX5_copyFrom 17 = .ok (.aload_n 1, 1) := by decide +kernel
theorem dX5_copyFrom_18 : decode cX5_copyFrom 18 = .ok (.getfield 46, 3) := by decide +kernel
theorem dX5_copyFrom_21 : decode cX5_copyFrom 21 = .ok (.putfield 46, 3) := by decide +kernel
theorem dX5_copyFrom_24 : decode cX5_copyFrom 24 = .ok (.aload_n 0, 1) := by decide +kernel
theorem dX5_copyFrom_25 : decode cX5_copyFrom 25 = .ok (.aload_n 1, 1) := by decide +kernel
theorem dX5_copyFrom_26 : decode cX5_copyFrom 26 = .ok (.getfield 49, 3) := by decide +kernel
theorem dX5_copyFrom_29 : decode cX5_copyFrom 29 = .ok (.putfield 49, 3) := by decide +kernel
theorem dX5_copyFrom_32 : decode cX5_copyFrom 32 = .ok (.aload_n 0, 1) := by decide +kernel
theorem dX5_copyFrom_33 : decode cX5_copyFrom 33 = .ok (.aload_n 1, 1) := by decide +kernel
theorem dX5_copyFrom_34 : decode cX5_copyFrom 34 = .ok (.getfield 52, 3) := by decide +kernel
theorem dX5_copyFrom_37 : decode cX5_copyFrom 37 = .ok (.putfield 52, 3) := by decide +kernel
theorem dX5_copyFrom_40 : decode cX5_copyFrom 40 = .ok (.aload_n 1, 1) := by decide +kernel
theorem dX5_copyFrom_41 : decode cX5_copyFrom 41 = .ok (.getfield 9, 3) := by decide +kernel
theorem dX5_copyFrom_44 : decode cX5_copyFrom 44 = .ok (.iconst 0, 1) := by decide +kernel
theorem dX5_copyFrom_45 : decode cX5_copyFrom 45 = .ok (.aload_n 0, 1) := by decide +kernel
theorem dX5_copyFrom_46 : decode cX5_copyFrom 46 = .ok (.getfield 9, 3) := by decide +kernel
theorem dX5_copyFrom_49 : decode cX5_copyFrom 49 = .ok (.iconst 0, 1) := by decide +kernel
theorem dX5_copyFrom_50 : decode cX5_copyFrom 50 = .ok (.bipush 7, 2) := by decide +kernel
theorem dX5_copyFrom_52 : decode cX5_copyFrom 52 = .ok (.invokestatic 55, 3) := by decide +kernel
theorem dX5_copyFrom_55 : decode cX5_copyFrom 55 = .ok (.aload_n 1, 1) := by decide +kernel
theorem dX5_copyFrom_56 : decode cX5_copyFrom 56 = .ok (.getfield 15, 3) := by decide +kernel
theorem dX5_copyFrom_59 : decode cX5_copyFrom 59 = .ok (.iconst 0, 1) := by decide +kernel
theorem dX5_copyFrom_60 : decode cX5_copyFrom 60 = .ok (.aload_n 0, 1) := by decide +kernel
theorem dX5_copyFrom_61 : decode cX5_copyFrom 61 = .ok (.getfield 15, 3) := by decide +kernel
theorem dX5_copyFrom_64 : decode cX5_copyFrom 64 = .ok (.iconst 0, 1) := by decide +kernel
theorem dX5_copyFrom_65 : decode cX5_copyFrom 65 = .ok (.bipush 7, 2) := by decide +kernel
theorem dX5_copyFrom_67 : decode cX5_copyFrom 67 = .ok (.invokestatic 55, 3) := by decide +kernel
theorem dX5_copyFrom_70 : decode cX5_copyFrom 70 = .ok (.aload_n 1, 1) := by decide +kernel
theorem dX5_copyFrom_71 : decode cX5_copyFrom 71 = .ok (.getfield 18, 3) := by decide +kernel
theorem dX5_copyFrom_74 : decode cX5_copyFrom 74 = .ok (.iconst 0, 1) := by decide +kernel
theorem dX5_copyFrom_75 : decode cX5_copyFrom 75 = .ok (.aload_n 0, 1) := by decide +kernel
theorem dX5_copyFrom_76 : decode cX5_copyFrom 76 = .ok (.getfield 18, 3) := by decide +kernel
theorem dX5_copyFrom_79 : decode cX5_copyFrom 79 = .ok (.iconst 0, 1) := by decide +kernel
theorem dX5_copyFrom_80 : decode cX5_copyFrom 80 = .ok (.bipush 7, 2) := by decide +kernel
theorem dX5_copyFrom_82 : decode cX5_copyFrom 82 = .ok (.invokestatic 55, 3) := by decide +kernel
theorem dX5_copyFrom_85 : decode cX5_copyFrom 85 = .ok (.aload_n 1, 1) := by decide +kernel
theorem dX5_copyFrom_86 : decode cX5_copyFrom 86 = .ok (.getfield 21, 3) := by decide +kernel
theorem dX5_copyFrom_89 : decode cX5_copyFrom 89 = .ok (.iconst 0, 1) := by decide +kernel
theorem dX5_copyFrom_90 : decode cX5_copyFrom 90 = .ok (.aload_n 0, 1) := by decide +kernel
theorem dX5_copyFrom_91 : decode cX5_copyFrom 91 = .ok (.getfield 21, 3) := by decide +kernel
theorem dX5_copyFrom_94 : decode cX5_copyFrom 94 = .ok (.iconst 0, 1) := by decide +kernel
theorem dX5_copyFrom_95 : decode cX5_copyFrom 95 = .ok (.bipush 6, 2) := by decide +kernel
theorem dX5_copyFrom_97 : decode cX5_copyFrom 97 = .ok (.invokestatic 55, 3) := by decide +kernel
theorem dX5_copyFrom_100 : decode cX5_copyFrom 100 = .ok (.aload_n 1, 1) := by decide +kernel
theorem dX5_copyFrom_101 : decode cX5_copyFrom 101 = .ok (.getfield 24, 3) := by decide +kernel
theorem dX5_copyFrom_104 : decode cX5_copyFrom 104 = .ok (.iconst 0, 1) := by decide +kernel
theorem dX5_copyFrom_105 : decode cX5_copyFrom 105 = .ok (.aload_n 0, 1) := by decide +kernel
theorem dX5_copyFrom_106 : decode cX5_copyFrom 106 = .ok (.getfield 24, 3) := by decide +kernel
theorem dX5_copyFrom_109 : decode cX5_copyFrom 109 = .ok (.iconst 0, 1) := by decide +kernel
theorem dX5_copyFrom_110 : decode cX5_copyFrom 110 = .ok (.bipush 6, 2) := by decide +kernel
theorem dX5_copyFrom_112 : decode cX5_copyFrom 112 = .ok (.invokestatic 55, 3) := by decide +kernel
theorem dX5_copyFrom_115 : decode cX5_copyFrom 115 = .ok (.aload_n 1, 1) := by decide +kernel
theorem dX5_copyFrom_116 : decode cX5_copyFrom 116 = .ok (.getfield 27, 3) := by decide +kernel
theorem dX5_copyFrom_119 : decode cX5_copyFrom 119 = .ok (.iconst 0, 1) := by decide +kernel
theorem dX5_copyFrom_120 : decode cX5_copyFrom 120 = .ok (.aload_n 0, 1) := by decide +kernel
theorem dX5_copyFrom_121 : decode cX5_copyFrom 121 = .ok (.getfield 27, 3) := by decide +kernel
theorem dX5_copyFrom_124 : decode cX5_copyFrom 124 = .ok (.iconst 0, 1) := by decide +kernel
theorem dX5_copyFrom_125 : decode cX5_copyFrom 125 = .ok (.bipush 30, 2) := by decide +kernel
theorem dX5_copyFrom_127 : decode cX5_copyFrom 127 = .ok (.invokestatic 55, 3) := by decide +kernel
theorem dX5_copyFrom_130 : decode cX5_copyFrom 130 = .ok (.aload_n 1, 1) := by decide +kernel
theorem dX5_copyFrom_131 : decode cX5_copyFrom 131 = .ok (.getfield 30, 3) := by decide +kernel
theorem dX5_copyFrom_134 : decode cX5_copyFrom 134 = .ok (.iconst 0, 1) := by decide +kernel
theorem dX5_copyFrom_135 : decode cX5_copyFrom 135 = .ok (.aload_n 0, 1) := by decide +kernel
theorem dX5_copyFrom_136 : decode cX5_copyFrom 136 = .ok (.getfield 30, 3) := by decide +kernel
theorem dX5_copyFrom_139 : decode cX5_copyFrom 139 = .ok (.iconst 0, 1) := by decide +kernel
theorem dX5_copyFrom_140 : decode cX5_copyFrom 140 = .ok (.bipush 120, 2) := by decide +kernel
theorem dX5_copyFrom_142 : decode cX5_copyFrom 142 = .ok (.invokestatic 55, 3) := by decide +kernel
theorem dX5_copyFrom_145 : decode cX5_copyFrom 145 = .ok (.return_, 1) := by decide +kernel
theorem dX5_join_0 : decode cX5_join 0 = .ok (.aload_n 0, 1) := by decide +kernel
theorem dX5_join_1 : decode cX5_join 1 = .ok (.getfield 37, 3) := by decide +kernel
theorem dX5_join_4 : decode cX5_join 4 = .ok (.bipush 7, 2) := by decide +kernel
theorem dX5_join_6 : decode cX5_join 6 = .ok (.if_icmp .lt 4, 3) := by decide +kernel
theorem dX5_join_9 : decode cX5_join 9 = .ok (.return_, 1) := by decide +kernel
theorem dX5_join_10 : decode cX5_join 10 = .ok (.aload_n 0, 1) := by decide +kernel
theorem dX5_join_11 : decode cX5_join 11 = .ok (.getfield 9, 3) := by decide +kernel
theorem dX5_join_14 : decode cX5_join 14 = .ok (.aload_n 0, 1) := by decide +kernel
theorem dX5_join_15 : decode cX5_join 15 = .ok (.getfield 37, 3) := by decide +kernel
theorem dX5_join_18 : decode cX5_join 18 = .ok (.iload_n 1, 1) := by decide +kernel
theorem dX5_join_19 : decode cX5_join 19 = .ok (.iastore, 1) := by decide +kernel
theorem dX5_join_20 : decode cX5_join 20 = .ok (.aload_n 0, 1) := by decide +kernel
theorem dX5_join_21 : decode cX5_join 21 = .ok (.getfield 15, 3) := by decide +kernel
theorem dX5_join_24 : decode cX5_join 24 = .ok (.aload_n 0, 1) := by decide +kernel
theorem dX5_join_25 : decode cX5_join 25 = .ok (.getfield 37, 3) := by decide +kernel
theorem dX5_join_28 : decode cX5_join 28 = .ok (.iload_n 2, 1) := by decide +kernel
theorem dX5_join_29 : decode cX5_join 29 = .ok (.iastore, 1) := by decide +kernel
theorem dX5_join_30 : decode cX5_join 30 = .ok (.aload_n 0, 1) := by decide +kernel
theorem dX5_join_31 : decode cX5_join 31 = .ok (.getfield 18, 3) := by decide +kernel
theorem dX5_join_34 : decode cX5_join 34 = .ok (.aload_n 0, 1) := by decide +kernel
theorem dX5_join_35 : decode cX5_join 35 = .ok (.getfield 37, 3) := by decide +kernel
theorem dX5_join_38 : decode cX5_join 38 = .ok (.iconst 1, 1) := by decide +kernel
theorem dX5_join_39 : decode cX5_join 39 = .ok (.aload_n 0, 1) := by decide +kernel
theorem dX5_join_40 : decode cX5_join 40 = .ok (.getfield 37, 3) := by decide +kernel
theorem dX5_join_43 : decode cX5_join 43 = .ok (.ishl, 1) := by decide +kernel
theorem dX5_join_44 : decode cX5_join 44 = .ok (.iastore, 1) := by decide +kernel
theorem dX5_join_45 : decode cX5_join 45 = .ok (.aload_n 0, 1) := by decide +kernel
theorem dX5_join_46 : decode cX5_join 46 = .ok (.dup, 1) := by decide +kernel
theorem dX5_join_47 : decode cX5_join 47 = .ok (.getfield 37, 3) := by decide +kernel
theorem dX5_join_50 : decode cX5_join 50 = .ok (.iconst 1, 1) := by decide +kernel
theorem dX5_join_51 : decode cX5_join 51 = .ok (.iadd, 1) := by decide +kernel
theorem dX5_join_52 : decode cX5_join 52 = .ok (.putfield 37, 3) := by decide +kernel
theorem dX5_join_55 : decode cX5_join 55 = .ok (.aload_n 0, 1) := by decide +kernel
theorem dX5_join_56 : decode cX5_join 56 = .ok (.iconst 0, 1) := by decide +kernel
theorem dX5_join_57 : decode cX5_join 57 = .ok (.putfield 52, 3) := by decide +kernel
theorem dX5_join_60 : decode cX5_join 60 = .ok (.return_, 1) := by decide +kernel
theorem dX5_nameOf_0 : decode cX5_nameOf 0 = .ok (.iconst 0, 1) := by decide +kernel
theorem dX5_nameOf_1 : decode cX5_nameOf 1 = .ok (.istore_n 2, 1) := by decide +kernel
theorem dX5_nameOf_2 : decode cX5_nameOf 2 = .ok (.iload_n 2, 1) := by decide +kernel
theorem dX5_nameOf_3 : decode cX5_nameOf 3 = .ok (.aload_n 0, 1) := by decide +kernel
theorem dX5_nameOf_4 : decode cX5_nameOf 4 = .ok (.getfield 37, 3) := by decide +kernel
theorem dX5_nameOf_7 : decode cX5_nameOf 7 = .ok (.if_icmp .ge 25, 3) := by decide +kernel
theorem dX5_nameOf_10 : decode cX5_nameOf 10 = .ok (.aload_n 0, 1) := by decide +kernel
theorem dX5_nameOf_11 : decode cX5_nameOf 11 = .ok (.getfield 18, 3) := by decide +kernel
theorem dX5_nameOf_14 : decode cX5_nameOf 14 = .ok (.iload_n 2, 1) := by decide +kernel
theorem dX5_nameOf_15 : decode cX5_nameOf 15 = .ok (.iaload, 1) := by decide +kernel
theorem dX5_nameOf_16 : decode cX5_nameOf 16 = .ok (.iload_n 1, 1) := by decide +kernel
theorem dX5_nameOf_17 : decode cX5_nameOf 17 = .ok (.invokestatic 61, 3) := by decide +kernel
theorem dX5_nameOf_20 : decode cX5_nameOf 20 = .ok (.iconst 1, 1) := by decide +kernel
theorem dX5_nameOf_21 : decode cX5_nameOf 21 = .ok (.if_icmp .ne 5, 3) := by decide +kernel
theorem dX5_nameOf_24 : decode cX5_nameOf 24 = .ok (.iload_n 2, 1) := by decide +kernel
theorem dX5_nameOf_25 : decode cX5_nameOf 25 = .ok (.ireturn, 1) := by decide +kernel
theorem dX5_nameOf_26 : decode cX5_nameOf 26 = .ok (.iinc 2 1, 3) := by decide +kernel
theorem dX5_nameOf_29 : decode cX5_nameOf 29 = .ok (.goto (-27), 3) := by decide +kernel
theorem dX5_nameOf_32 : decode cX5_nameOf 32 = .ok (.iconst (-1), 1) := by decide +kernel
theorem dX5_nameOf_33 : decode cX5_nameOf 33 = .ok (.ireturn, 1) := by decide +kernel
theorem dX5_give_0 : decode cX5_give 0 = .ok (.iconst 0, 1) := by decide +kernel
theorem dX5_give_1 : decode cX5_give 1 = .ok (.istore_n 3, 1) := by decide +kernel
theorem dX5_give_2 : decode cX5_give 2 = .ok (.iload_n 3, 1) := by decide +kernel
theorem dX5_give_3 : decode cX5_give 3 = .ok (.aload_n 0, 1) := by decide +kernel
theorem dX5_give_4 : decode cX5_give 4 = .ok (.getfield 37, 3) := by decide +kernel
theorem dX5_give_7 : decode cX5_give 7 = .ok (.if_icmp .ge 23, 3) := by decide +kernel
theorem dX5_give_10 : decode cX5_give 10 = .ok (.aload_n 0, 1) := by decide +kernel
theorem dX5_give_11 : decode cX5_give 11 = .ok (.getfield 18, 3) := by decide +kernel
theorem dX5_give_14 : decode cX5_give 14 = .ok (.iload_n 3, 1) := by decide +kernel
theorem dX5_give_15 : decode cX5_give 15 = .ok (.dup2, 1) := by decide +kernel
theorem dX5_give_16 : decode cX5_give 16 = .ok (.iaload, 1) := by decide +kernel
theorem dX5_give_17 : decode cX5_give 17 = .ok (.iconst 1, 1) := by decide +kernel
theorem dX5_give_18 : decode cX5_give 18 = .ok (.iload_n 1, 1) := by decide +kernel
theorem dX5_give_19 : decode cX5_give 19 = .ok (.ishl, 1) := by decide +kernel
theorem dX5_give_20 : decode cX5_give 20 = .ok (.iconst (-1), 1) := by decide +kernel
theorem dX5_give_21 : decode cX5_give 21 = .ok (.ixor, 1) := by decide +kernel
theorem dX5_give_22 : decode cX5_give 22 = .ok (.iand, 1) := by decide +kernel
theorem dX5_give_23 : decode cX5_give 23 = .ok (.iastore, 1) := by decide +kernel
theorem dX5_give_24 : decode cX5_give 24 = .ok (.iinc 3 1, 3) := by decide +kernel
theorem dX5_give_27 : decode cX5_give 27 = .ok (.goto (-25), 3) := by decide +kernel
theorem dX5_give_30 : decode cX5_give 30 = .ok (.iload_n 2, 1) := by decide +kernel
theorem dX5_give_31 : decode cX5_give 31 = .ok (.aload_n 0, 1) := by decide +kernel
theorem dX5_give_32 : decode cX5_give 32 = .ok (.getfield 37, 3) := by decide +kernel
theorem dX5_give_35 : decode cX5_give 35 = .ok (.invokestatic 65, 3) := by decide +kernel
theorem dX5_give_38 : decode cX5_give 38 = .ok (.ifCond .eq 15, 3) := by decide +kernel
theorem dX5_give_41 : decode cX5_give 41 = .ok (.aload_n 0, 1) := by decide +kernel
theorem dX5_give_42 : decode cX5_give 42 = .ok (.getfield 18, 3) := by decide +kernel
theorem dX5_give_45 : decode cX5_give 45 = .ok (.iload_n 2, 1) := by decide +kernel
theorem dX5_give_46 : decode cX5_give 46 = .ok (.dup2, 1) := by decide +kernel
theorem dX5_give_47 : decode cX5_give 47 = .ok (.iaload, 1) := by decide +kernel
theorem dX5_give_48 : decode cX5_give 48 = .ok (.iconst 1, 1) := by decide +kernel
theorem dX5_give_49 : decode cX5_give 49 = .ok (.iload_n 1, 1) := by decide +kernel
theorem dX5_give_50 : decode cX5_give 50 = .ok (.ishl, 1) := by decide +kernel
theorem dX5_give_51 : decode cX5_give 51 = .ok (.ior, 1) := by decide +kernel
theorem dX5_give_52 : decode cX5_give 52 = .ok (.iastore, 1) := by decide +kernel
theorem dX5_give_53 : decode cX5_give 53 = .ok (.return_, 1) := by decide +kernel
theorem dX5_penceOn_0 : decode cX5_penceOn 0 = .ok (.iconst 0, 1) := by decide +kernel
theorem dX5_penceOn_1 : decode cX5_penceOn 1 = .ok (.istore_n 2, 1) := by decide +kernel
theorem dX5_penceOn_2 : decode cX5_penceOn 2 = .ok (.iconst 0, 1) := by decide +kernel
theorem dX5_penceOn_3 : decode cX5_penceOn 3 = .ok (.istore_n 3, 1) := by decide +kernel
theorem dX5_penceOn_4 : decode cX5_penceOn 4 = .ok (.iload_n 3, 1) := by decide +kernel
theorem dX5_penceOn_5 : decode cX5_penceOn 5 = .ok (.aload_n 0, 1) := by decide +kernel
theorem dX5_penceOn_6 : decode cX5_penceOn 6 = .ok (.getfield 46, 3) := by decide +kernel
theorem dX5_penceOn_9 : decode cX5_penceOn 9 = .ok (.if_icmp .ge 28, 3) := by decide +kernel
theorem dX5_penceOn_12 : decode cX5_penceOn 12 = .ok (.aload_n 0, 1) := by decide +kernel
theorem dX5_penceOn_13 : decode cX5_penceOn 13 = .ok (.getfield 21, 3) := by decide +kernel
theorem dX5_penceOn_16 : decode cX5_penceOn 16 = .ok (.iload_n 3, 1) := by decide +kernel
theorem dX5_penceOn_17 : decode cX5_penceOn 17 = .ok (.iaload, 1) := by decide +kernel
theorem dX5_penceOn_18 : decode cX5_penceOn 18 = .ok (.iload_n 1, 1) := by decide +kernel
theorem dX5_penceOn_19 : decode cX5_penceOn 19 = .ok (.if_icmp .ne 12, 3) := by decide +kernel
theorem dX5_penceOn_22 : decode cX5_penceOn 22 = .ok (.iload_n 2, 1) := by decide +kernel
theorem dX5_penceOn_23 : decode cX5_penceOn 23 = .ok (.aload_n 0, 1) := by decide +kernel
theorem dX5_penceOn_24 : decode cX5_penceOn 24 = .ok (.getfield 24, 3) := by decide +kernel
theorem dX5_penceOn_27 : decode cX5_penceOn 27 = .ok (.iload_n 3, 1) := by decide +kernel
theorem dX5_penceOn_28 : decode cX5_penceOn 28 = .ok (.iaload, 1) := by decide +kernel
theorem dX5_penceOn_29 : decode cX5_penceOn 29 = .ok (.iadd, 1) := by decide +kernel
theorem dX5_penceOn_30 : decode cX5_penceOn 30 = .ok (.istore_n 2, 1) := by decide +kernel
theorem dX5_penceOn_31 : decode cX5_penceOn 31 = .ok (.iinc 3 1, 3) := by decide +kernel
theorem dX5_penceOn_34 : decode cX5_penceOn 34 = .ok (.goto (-30), 3) := by decide +kernel
theorem dX5_penceOn_37 : decode cX5_penceOn 37 = .ok (.iload_n 2, 1) := by decide +kernel
theorem dX5_penceOn_38 : decode cX5_penceOn 38 = .ok (.ireturn, 1) := by decide +kernel
theorem dX5_write_0 : decode cX5_write 0 = .ok (.aload_n 0, 1) := by decide +kernel
theorem dX5_write_1 : decode cX5_write 1 = .ok (.getfield 49, 3) := by decide +kernel
theorem dX5_write_4 : decode cX5_write 4 = .ok (.bipush 6, 2) := by decide +kernel
theorem dX5_write_6 : decode cX5_write 6 = .ok (.if_icmp .lt 4, 3) := by decide +kernel
theorem dX5_write_9 : decode cX5_write 9 = .ok (.return_, 1) := by decide +kernel
theorem dX5_write_10 : decode cX5_write 10 = .ok (.aload_n 0, 1) := by decide +kernel
theorem dX5_write_11 : decode cX5_write 11 = .ok (.getfield 49, 3) := by decide +kernel
theorem dX5_write_14 : decode cX5_write 14 = .ok (.iconst 5, 1) := by decide +kernel
theorem dX5_write_15 : decode cX5_write 15 = .ok (.imul, 1) := by decide +kernel
theorem dX5_write_16 : decode cX5_write 16 = .ok (.istore 6, 2) := by decide +kernel
theorem dX5_write_18 : decode cX5_write 18 = .ok (.aload_n 0, 1) := by decide +kernel
theorem dX5_write_19 : decode cX5_write 19 = .ok (.getfield 27, 3) := by decide +kernel
theorem dX5_write_22 : decode cX5_write 22 = .ok (.iload 6, 2) := by decide +kernel
theorem dX5_write_24 : decode cX5_write 24 = .ok (.iload_n 1, 1) := by decide +kernel
theorem dX5_write_25 : decode cX5_write 25 = .ok (.iastore, 1) := by decide +kernel
theorem dX5_write_26 : decode cX5_write 26 = .ok (.aload_n 0, 1) := by decide +kernel
theorem dX5_write_27 : decode cX5_write 27 = .ok (.getfield 27, 3) := by decide +kernel
theorem dX5_write_30 : decode cX5_write 30 = .ok (.iload 6, 2) := by decide +kernel
theorem dX5_write_32 : decode cX5_write 32 = .ok (.iconst 1, 1) := by decide +kernel
theorem dX5_write_33 : decode cX5_write 33 = .ok (.iadd, 1) := by decide +kernel
theorem dX5_write_34 : decode cX5_write 34 = .ok (.iload_n 2, 1) := by decide +kernel
theorem dX5_write_35 : decode cX5_write 35 = .ok (.iastore, 1) := by decide +kernel
theorem dX5_write_36 : decode cX5_write 36 = .ok (.aload_n 0, 1) := by decide +kernel
theorem dX5_write_37 : decode cX5_write 37 = .ok (.getfield 27, 3) := by decide +kernel
theorem dX5_write_40 : decode cX5_write 40 = .ok (.iload 6, 2) := by decide +kernel
theorem dX5_write_42 : decode cX5_write 42 = .ok (.iconst 2, 1) := by decide +kernel
theorem dX5_write_43 : decode cX5_write 43 = .ok (.iadd, 1) := by decide +kernel
theorem dX5_write_44 : decode cX5_write 44 = .ok (.iload_n 3, 1) := by decide +kernel
theorem dX5_write_45 : decode cX5_write 45 = .ok (.iastore, 1) := by decide +kernel
theorem dX5_write_46 : decode cX5_write 46 = .ok (.aload_n 0, 1) := by decide +kernel
theorem dX5_write_47 : decode cX5_write 47 = .ok (.getfield 27, 3) := by decide +kernel
theorem dX5_write_50 : decode cX5_write 50 = .ok (.iload 6, 2) := by decide +kernel
theorem dX5_write_52 : decode cX5_write 52 = .ok (.iconst 3, 1) := by decide +kernel
theorem dX5_write_53 : decode cX5_write 53 = .ok (.iadd, 1) := by decide +kernel
theorem dX5_write_54 : decode cX5_write 54 = .ok (.iload 4, 2) := by decide +kernel
theorem dX5_write_56 : decode cX5_write 56 = .ok (.iastore, 1) := by decide +kernel
theorem dX5_write_57 : decode cX5_write 57 = .ok (.aload_n 0, 1) := by decide +kernel
theorem dX5_write_58 : decode cX5_write 58 = .ok (.getfield 27, 3) := by decide +kernel
theorem dX5_write_61 : decode cX5_write 61 = .ok (.iload 6, 2) := by decide +kernel
theorem dX5_write_63 : decode cX5_write 63 = .ok (.iconst 4, 1) := by decide +kernel
theorem dX5_write_64 : decode cX5_write 64 = .ok (.iadd, 1) := by decide +kernel
theorem dX5_write_65 : decode cX5_write 65 = .ok (.iload 5, 2) := by decide +kernel
theorem dX5_write_67 : decode cX5_write 67 = .ok (.iastore, 1) := by decide +kernel
theorem dX5_write_68 : decode cX5_write 68 = .ok (.aload_n 0, 1) := by decide +kernel
theorem dX5_write_69 : decode cX5_write 69 = .ok (.dup, 1) := by decide +kernel
theorem dX5_write_70 : decode cX5_write 70 = .ok (.getfield 49, 3) := by decide +kernel
theorem dX5_write_73 : decode cX5_write 73 = .ok (.iconst 1, 1) := by decide +kernel
theorem dX5_write_74 : decode cX5_write 74 = .ok (.iadd, 1) := by decide +kernel
theorem dX5_write_75 : decode cX5_write 75 = .ok (.putfield 49, 3) := by decide +kernel
theorem dX5_write_78 : decode cX5_write 78 = .ok (.return_, 1) := by decide +kernel
theorem dX5_remember_0 : decode cX5_remember 0 = .ok (.aload_n 0, 1) := by decide +kernel
theorem dX5_remember_1 : decode cX5_remember 1 = .ok (.getfield 52, 3) := by decide +kernel
theorem dX5_remember_4 : decode cX5_remember 4 = .ok (.bipush 8, 2) := by decide +kernel
theorem dX5_remember_6 : decode cX5_remember 6 = .ok (.if_icmp .lt 30, 3) := by decide +kernel
theorem dX5_remember_9 : decode cX5_remember 9 = .ok (.aload_n 0, 1) := by decide +kernel
theorem dX5_remember_10 : decode cX5_remember 10 = .ok (.bipush 7, 2) := by decide +kernel
theorem dX5_remember_12 : decode cX5_remember 12 = .ok (.putfield 52, 3) := by decide +kernel
theorem dX5_remember_15 : decode cX5_remember 15 = .ok (.aload_n 0, 1) := by decide +kernel
theorem dX5_remember_16 : decode cX5_remember 16 = .ok (.getfield 30, 3) := by decide +kernel
theorem dX5_remember_19 : decode cX5_remember 19 = .ok (.bipush 15, 2) := by decide +kernel
theorem dX5_remember_21 : decode cX5_remember 21 = .ok (.aload_n 0, 1) := by decide +kernel
theorem dX5_remember_22 : decode cX5_remember 22 = .ok (.getfield 30, 3) := by decide +kernel
theorem dX5_remember_25 : decode cX5_remember 25 = .ok (.iconst 0, 1) := by decide +kernel
theorem dX5_remember_26 : decode cX5_remember 26 = .ok (.aload_n 0, 1) := by decide +kernel
theorem dX5_remember_27 : decode cX5_remember 27 = .ok (.getfield 52, 3) := by decide +kernel
theorem dX5_remember_30 : decode cX5_remember 30 = .ok (.bipush 15, 2) := by decide +kernel
theorem dX5_remember_32 : decode cX5_remember 32 = .ok (.imul, 1) := by decide +kernel
theorem dX5_remember_33 : decode cX5_remember 33 = .ok (.invokestatic 55, 3) := by decide +kernel
theorem dX5_remember_36 : decode cX5_remember 36 = .ok (.aload_n 0, 1) := by decide +kernel
theorem dX5_remember_37 : decode cX5_remember 37 = .ok (.getfield 52, 3) := by decide +kernel
theorem dX5_remember_40 : decode cX5_remember 40 = .ok (.bipush 15, 2) := by decide +kernel
theorem dX5_remember_42 : decode cX5_remember 42 = .ok (.imul, 1) := by decide +kernel
theorem dX5_remember_43 : decode cX5_remember 43 = .ok (.istore_n 1, 1) := by decide +kernel
theorem dX5_remember_44 : decode cX5_remember 44 = .ok (.aload_n 0, 1) := by decide +kernel
theorem dX5_remember_45 : decode cX5_remember 45 = .ok (.getfield 18, 3) := by decide +kernel
theorem dX5_remember_48 : decode cX5_remember 48 = .ok (.iconst 0, 1) := by decide +kernel
theorem dX5_remember_49 : decode cX5_remember 49 = .ok (.aload_n 0, 1) := by decide +kernel
theorem dX5_remember_50 : decode cX5_remember 50 = .ok (.getfield 30, 3) := by decide +kernel
theorem dX5_remember_53 : decode cX5_remember 53 = .ok (.iload_n 1, 1) := by decide +kernel
theorem dX5_remember_54 : decode cX5_remember 54 = .ok (.bipush 7, 2) := by decide +kernel
theorem dX5_remember_56 : decode cX5_remember 56 = .ok (.invokestatic 55, 3) := by decide +kernel
theorem dX5_remember_59 : decode cX5_remember 59 = .ok (.aload_n 0, 1) := by decide +kernel
theorem dX5_remember_60 : decode cX5_remember 60 = .ok (.getfield 15, 3) := by decide +kernel
theorem dX5_remember_63 : decode cX5_remember 63 = .ok (.iconst 0, 1) := by decide +kernel
theorem dX5_remember_64 : decode cX5_remember 64 = .ok (.aload_n 0, 1) := by decide +kernel
theorem dX5_remember_65 : decode cX5_remember 65 = .ok (.getfield 30, 3) := by decide +kernel
theorem dX5_remember_68 : decode cX5_remember 68 = .ok (.iload_n 1, 1) := by decide +kernel
theorem dX5_remember_69 : decode cX5_remember 69 = .ok (.bipush 7, 2) := by decide +kernel
theorem dX5_remember_71 : decode cX5_remember 71 = .ok (.iadd, 1) := by decide +kernel
theorem dX5_remember_72 : decode cX5_remember 72 = .ok (.bipush 7, 2) := by decide +kernel
theorem dX5_remember_74 : decode cX5_remember 74 = .ok (.invokestatic 55, 3) := by decide +kernel
theorem dX5_remember_77 : decode cX5_remember 77 = .ok (.aload_n 0, 1) := by decide +kernel
theorem dX5_remember_78 : decode cX5_remember 78 = .ok (.getfield 30, 3) := by decide +kernel
theorem dX5_remember_81 : decode cX5_remember 81 = .ok (.iload_n 1, 1) := by decide +kernel
theorem dX5_remember_82 : decode cX5_remember 82 = .ok (.bipush 14, 2) := by decide +kernel
theorem dX5_remember_84 : decode cX5_remember 84 = .ok (.iadd, 1) := by decide +kernel
theorem dX5_remember_85 : decode cX5_remember 85 = .ok (.aload_n 0, 1) := by decide +kernel
theorem dX5_remember_86 : decode cX5_remember 86 = .ok (.getfield 33, 3) := by decide +kernel
theorem dX5_remember_89 : decode cX5_remember 89 = .ok (.iastore, 1) := by decide +kernel
theorem dX5_remember_90 : decode cX5_remember 90 = .ok (.aload_n 0, 1) := by decide +kernel
theorem dX5_remember_91 : decode cX5_remember 91 = .ok (.dup, 1) := by decide +kernel
theorem dX5_remember_92 : decode cX5_remember 92 = .ok (.getfield 52, 3) := by decide +kernel
theorem dX5_remember_95 : decode cX5_remember 95 = .ok (.iconst 1, 1) := by decide +kernel
theorem dX5_remember_96 : decode cX5_remember 96 = .ok (.iadd, 1) := by decide +kernel
theorem dX5_remember_97 : decode cX5_remember 97 = .ok (.putfield 52, 3) := by decide +kernel
theorem dX5_remember_100 : decode cX5_remember 100 = .ok (.return_, 1) := by decide +kernel
theorem dX5_goBack_0 : decode cX5_goBack 0 = .ok (.aload_n 0, 1) := by decide +kernel
theorem dX5_goBack_1 : decode cX5_goBack 1 = .ok (.getfield 52, 3) := by decide +kernel
theorem dX5_goBack_4 : decode cX5_goBack 4 = .ok (.ifCond .gt 4, 3) := by decide +kernel
theorem dX5_goBack_7 : decode cX5_goBack 7 = .ok (.return_, 1) := by decide +kernel
theorem dX5_goBack_8 : decode cX5_goBack 8 = .ok (.aload_n 0, 1) := by decide +kernel
theorem dX5_goBack_9 : decode cX5_goBack 9 = .ok (.dup, 1) := by decide +kernel
theorem dX5_goBack_10 : decode cX5_goBack 10 = .ok (.getfield 52, 3) := by decide +kernel
theorem dX5_goBack_13 : decode cX5_goBack 13 = .ok (.iconst 1, 1) := by decide +kernel
theorem dX5_goBack_14 : decode cX5_goBack 14 = .ok (.isub, 1) := by decide +kernel
theorem dX5_goBack_15 : decode cX5_goBack 15 = .ok (.putfield 52, 3) := by decide +kernel
theorem dX5_goBack_18 : decode cX5_goBack 18 = .ok (.aload_n 0, 1) := by decide +kernel
theorem dX5_goBack_19 : decode cX5_goBack 19 = .ok (.getfield 52, 3) := by decide +kernel
theorem dX5_goBack_22 : decode cX5_goBack 22 = .ok (.bipush 15, 2) := by decide +kernel
theorem dX5_goBack_24 : decode cX5_goBack 24 = .ok (.imul, 1) := by decide +kernel
theorem dX5_goBack_25 : decode cX5_goBack 25 = .ok (.istore_n 1, 1) := by decide +kernel
theorem dX5_goBack_26 : decode cX5_goBack 26 = .ok (.aload_n 0, 1) := by decide +kernel
theorem dX5_goBack_27 : decode cX5_goBack 27 = .ok (.getfield 30, 3) := by decide +kernel
theorem dX5_goBack_30 : decode cX5_goBack 30 = .ok (.iload_n 1, 1) := by decide +kernel
theorem dX5_goBack_31 : decode cX5_goBack 31 = .ok (.aload_n 0, 1) := by decide +kernel
theorem dX5_goBack_32 : decode cX5_goBack 32 = .ok (.getfield 18, 3) := by decide +kernel
theorem dX5_goBack_35 : decode cX5_goBack 35 = .ok (.iconst 0, 1) := by decide +kernel
theorem dX5_goBack_36 : decode cX5_goBack 36 = .ok (.bipush 7, 2) := by decide +kernel
theorem dX5_goBack_38 : decode cX5_goBack 38 = .ok (.invokestatic 55, 3) := by decide +kernel
theorem dX5_goBack_41 : decode cX5_goBack 41 = .ok (.aload_n 0, 1) := by decide +kernel
theorem dX5_goBack_42 : decode cX5_goBack 42 = .ok (.getfield 30, 3) := by decide +kernel
theorem dX5_goBack_45 : decode cX5_goBack 45 = .ok (.iload_n 1, 1) := by decide +kernel
theorem dX5_goBack_46 : decode cX5_goBack 46 = .ok (.bipush 7, 2) := by decide +kernel
theorem dX5_goBack_48 : decode cX5_goBack 48 = .ok (.iadd, 1) := by decide +kernel
theorem dX5_goBack_49 : decode cX5_goBack 49 = .ok (.aload_n 0, 1) := by decide +kernel
theorem dX5_goBack_50 : decode cX5_goBack 50 = .ok (.getfield 15, 3) := by decide +kernel
theorem dX5_goBack_53 : decode cX5_goBack 53 = .ok (.iconst 0, 1) := by decide +kernel
theorem dX5_goBack_54 : decode cX5_goBack 54 = .ok (.bipush 7, 2) := by decide +kernel
theorem dX5_goBack_56 : decode cX5_goBack 56 = .ok (.invokestatic 55, 3) := by decide +kernel
theorem dX5_goBack_59 : decode cX5_goBack 59 = .ok (.aload_n 0, 1) := by decide +kernel
theorem dX5_goBack_60 : decode cX5_goBack 60 = .ok (.aload_n 0, 1) := by decide +kernel
theorem dX5_goBack_61 : decode cX5_goBack 61 = .ok (.getfield 30, 3) := by decide +kernel
theorem dX5_goBack_64 : decode cX5_goBack 64 = .ok (.iload_n 1, 1) := by decide +kernel
theorem dX5_goBack_65 : decode cX5_goBack 65 = .ok (.bipush 14, 2) := by decide +kernel
theorem dX5_goBack_67 : decode cX5_goBack 67 = .ok (.iadd, 1) := by decide +kernel
theorem dX5_goBack_68 : decode cX5_goBack 68 = .ok (.iaload, 1) := by decide +kernel
theorem dX5_goBack_69 : decode cX5_goBack 69 = .ok (.putfield 33, 3) := by decide +kernel
theorem dX5_goBack_72 : decode cX5_goBack 72 = .ok (.return_, 1) := by decide +kernel
theorem dX5_mixInto_0 : decode cX5_mixInto 0 = .ok (.lload_n 1, 1) := by decide +kernel
theorem dX5_mixInto_1 : decode cX5_mixInto 1 = .ok (.lstore_n 3, 1) := by decide +kernel
theorem dX5_mixInto_2 : decode cX5_mixInto 2 = .ok (.iconst 0, 1) := by decide +kernel
theorem dX5_mixInto_3 : decode cX5_mixInto 3 = .ok (.istore 5, 2) := by decide +kernel
theorem dX5_mixInto_5 : decode cX5_mixInto 5 = .ok (.iload 5, 2) := by decide +kernel
theorem dX5_mixInto_7 : decode cX5_mixInto 7 = .ok (.aload_n 0, 1) := by decide +kernel
theorem dX5_mixInto_8 : decode cX5_mixInto 8 = .ok (.getfield 37, 3) := by decide +kernel
theorem dX5_mixInto_11 : decode cX5_mixInto 11 = .ok (.if_icmp .ge 53, 3) := by decide +kernel
theorem dX5_mixInto_14 : decode cX5_mixInto 14 = .ok (.ldc2_w 69, 3) := by decide +kernel
theorem dX5_mixInto_17 : decode cX5_mixInto 17 = .ok (.lload_n 3, 1) := by decide +kernel
theorem dX5_mixInto_18 : decode cX5_mixInto 18 = .ok (.lmul, 1) := by decide +kernel
theorem dX5_mixInto_19 : decode cX5_mixInto 19 = .ok (.aload_n 0, 1) := by decide +kernel
theorem dX5_mixInto_20 : decode cX5_mixInto 20 = .ok (.getfield 9, 3) := by decide +kernel
theorem dX5_mixInto_23 : decode cX5_mixInto 23 = .ok (.iload 5, 2) := by decide +kernel
theorem dX5_mixInto_25 : decode cX5_mixInto 25 = .ok (.iaload, 1) := by decide +kernel
theorem dX5_mixInto_26 : decode cX5_mixInto 26 = .ok (.i2l, 1) := by decide +kernel
theorem dX5_mixInto_27 : decode cX5_mixInto 27 = .ok (.ladd, 1) := by decide +kernel
theorem dX5_mixInto_28 : decode cX5_mixInto 28 = .ok (.lstore_n 3, 1) := by decide +kernel
theorem dX5_mixInto_29 : decode cX5_mixInto 29 = .ok (.ldc2_w 69, 3) := by decide +kernel
theorem dX5_mixInto_32 : decode cX5_mixInto 32 = .ok (.lload_n 3, 1) := by decide +kernel
theorem dX5_mixInto_33 : decode cX5_mixInto 33 = .ok (.lmul, 1) := by decide +kernel
theorem dX5_mixInto_34 : decode cX5_mixInto 34 = .ok (.aload_n 0, 1) := by decide +kernel
theorem dX5_mixInto_35 : decode cX5_mixInto 35 = .ok (.getfield 15, 3) := by decide +kernel
theorem dX5_mixInto_38 : decode cX5_mixInto 38 = .ok (.iload 5, 2) := by decide +kernel
theorem dX5_mixInto_40 : decode cX5_mixInto 40 = .ok (.iaload, 1) := by decide +kernel
theorem dX5_mixInto_41 : decode cX5_mixInto 41 = .ok (.i2l, 1) := by decide +kernel
theorem dX5_mixInto_42 : decode cX5_mixInto 42 = .ok (.ladd, 1) := by decide +kernel
theorem dX5_mixInto_43 : decode cX5_mixInto 43 = .ok (.lstore_n 3, 1) := by decide +kernel
theorem dX5_mixInto_44 : decode cX5_mixInto 44 = .ok (.ldc2_w 69, 3) := by decide +kernel
theorem dX5_mixInto_47 : decode cX5_mixInto 47 = .ok (.lload_n 3, 1) := by decide +kernel
theorem dX5_mixInto_48 : decode cX5_mixInto 48 = .ok (.lmul, 1) := by decide +kernel
theorem dX5_mixInto_49 : decode cX5_mixInto 49 = .ok (.aload_n 0, 1) := by decide +kernel
theorem dX5_mixInto_50 : decode cX5_mixInto 50 = .ok (.iload 5, 2) := by decide +kernel
theorem dX5_mixInto_52 : decode cX5_mixInto 52 = .ok (.invokevirtual 71, 3) := by decide +kernel
theorem dX5_mixInto_55 : decode cX5_mixInto 55 = .ok (.i2l, 1) := by decide +kernel
theorem dX5_mixInto_56 : decode cX5_mixInto 56 = .ok (.ladd, 1) := by decide +kernel
theorem dX5_mixInto_57 : decode cX5_mixInto 57 = .ok (.lstore_n 3, 1) := by decide +kernel
theorem dX5_mixInto_58 : decode cX5_mixInto 58 = .ok (.iinc 5 1, 3) := by decide +kernel
theorem dX5_mixInto_61 : decode cX5_mixInto 61 = .ok (.goto (-56), 3) := by decide +kernel
theorem dX5_mixInto_64 : decode cX5_mixInto 64 = .ok (.iconst 0, 1) := by decide +kernel
theorem dX5_mixInto_65 : decode cX5_mixInto 65 = .ok (.istore 5, 2) := by decide +kernel
theorem dX5_mixInto_67 : decode cX5_mixInto 67 = .ok (.iload 5, 2) := by decide +kernel
theorem dX5_mixInto_69 : decode cX5_mixInto 69 = .ok (.aload_n 0, 1) := by decide +kernel
theorem dX5_mixInto_70 : decode cX5_mixInto 70 = .ok (.getfield 46, 3) := by decide +kernel
theorem dX5_mixInto_73 : decode cX5_mixInto 73 = .ok (.if_icmp .ge 39, 3) := by decide +kernel
theorem dX5_mixInto_76 : decode cX5_mixInto 76 = .ok (.ldc2_w 69, 3) := by decide +kernel
theorem dX5_mixInto_79 : decode cX5_mixInto 79 = .ok (.lload_n 3, 1) := by decide +kernel
theorem dX5_mixInto_80 : decode cX5_mixInto 80 = .ok (.lmul, 1) := by decide +kernel
theorem dX5_mixInto_81 : decode cX5_mixInto 81 = .ok (.aload_n 0, 1) := by decide +kernel
theorem dX5_mixInto_82 : decode cX5_mixInto 82 = .ok (.getfield 21, 3) := by decide +kernel
theorem dX5_mixInto_85 : decode cX5_mixInto 85 = .ok (.iload 5, 2) := by decide +kernel
theorem dX5_mixInto_87 : decode cX5_mixInto 87 = .ok (.iaload, 1) := by decide +kernel
theorem dX5_mixInto_88 : decode cX5_mixInto 88 = .ok (.i2l, 1) := by decide +kernel
theorem dX5_mixInto_89 : decode cX5_mixInto 89 = .ok (.ladd, 1) := by decide +kernel
theorem dX5_mixInto_90 : decode cX5_mixInto 90 = .ok (.lstore_n 3, 1) := by decide +kernel
theorem dX5_mixInto_91 : decode cX5_mixInto 91 = .ok (.ldc2_w 69, 3) := by decide +kernel
theorem dX5_mixInto_94 : decode cX5_mixInto 94 = .ok (.lload_n 3, 1) := by decide +kernel
theorem dX5_mixInto_95 : decode cX5_mixInto 95 = .ok (.lmul, 1) := by decide +kernel
theorem dX5_mixInto_96 : decode cX5_mixInto 96 = .ok (.aload_n 0, 1) := by decide +kernel
theorem dX5_mixInto_97 : decode cX5_mixInto 97 = .ok (.getfield 24, 3) := by decide +kernel
theorem dX5_mixInto_100 : decode cX5_mixInto 100 = .ok (.iload 5, 2) := by decide +kernel
theorem dX5_mixInto_102 : decode cX5_mixInto 102 = .ok (.iaload, 1) := by decide +kernel
theorem dX5_mixInto_103 : decode cX5_mixInto 103 = .ok (.i2l, 1) := by decide +kernel
theorem dX5_mixInto_104 : decode cX5_mixInto 104 = .ok (.ladd, 1) := by decide +kernel
theorem dX5_mixInto_105 : decode cX5_mixInto 105 = .ok (.lstore_n 3, 1) := by decide +kernel
theorem dX5_mixInto_106 : decode cX5_mixInto 106 = .ok (.iinc 5 1, 3) := by decide +kernel
theorem dX5_mixInto_109 : decode cX5_mixInto 109 = .ok (.goto (-42), 3) := by decide +kernel
theorem dX5_mixInto_112 : decode cX5_mixInto 112 = .ok (.iconst 0, 1) := by decide +kernel
theorem dX5_mixInto_113 : decode cX5_mixInto 113 = .ok (.istore 5, 2) := by decide +kernel
theorem dX5_mixInto_115 : decode cX5_mixInto 115 = .ok (.iload 5, 2) := by decide +kernel
theorem dX5_mixInto_117 : decode cX5_mixInto 117 = .ok (.aload_n 0, 1) := by decide +kernel
theorem dX5_mixInto_118 : decode cX5_mixInto 118 = .ok (.getfield 49, 3) := by decide +kernel
theorem dX5_mixInto_121 : decode cX5_mixInto 121 = .ok (.iconst 5, 1) := by decide +kernel
theorem dX5_mixInto_122 : decode cX5_mixInto 122 = .ok (.imul, 1) := by decide +kernel
theorem dX5_mixInto_123 : decode cX5_mixInto 123 = .ok (.if_icmp .ge 24, 3) := by decide +kernel
theorem dX5_mixInto_126 : decode cX5_mixInto 126 = .ok (.ldc2_w 69, 3) := by decide +kernel
theorem dX5_mixInto_129 : decode cX5_mixInto 129 = .ok (.lload_n 3, 1) := by decide +kernel
theorem dX5_mixInto_130 : decode cX5_mixInto 130 = .ok (.lmul, 1) := by decide +kernel
theorem dX5_mixInto_131 : decode cX5_mixInto 131 = .ok (.aload_n 0, 1) := by decide +kernel
theorem dX5_mixInto_132 : decode cX5_mixInto 132 = .ok (.getfield 27, 3) := by decide +kernel
theorem dX5_mixInto_135 : decode cX5_mixInto 135 = .ok (.iload 5, 2) := by decide +kernel
theorem dX5_mixInto_137 : decode cX5_mixInto 137 = .ok (.iaload, 1) := by decide +kernel
theorem dX5_mixInto_138 : decode cX5_mixInto 138 = .ok (.i2l, 1) := by decide +kernel
theorem dX5_mixInto_139 : decode cX5_mixInto 139 = .ok (.ladd, 1) := by decide +kernel
theorem dX5_mixInto_140 : decode cX5_mixInto 140 = .ok (.lstore_n 3, 1) := by decide +kernel
theorem dX5_mixInto_141 : decode cX5_mixInto 141 = .ok (.iinc 5 1, 3) := by decide +kernel
theorem dX5_mixInto_144 : decode cX5_mixInto 144 = .ok (.goto (-29), 3) := by decide +kernel
theorem dX5_mixInto_147 : decode cX5_mixInto 147 = .ok (.lload_n 3, 1) := by decide +kernel
theorem dX5_mixInto_148 : decode cX5_mixInto 148 = .ok (.lreturn, 1) := by decide +kernel
theorem dX6_init_0 : decode cX6_init 0 = .ok (.aload_n 0, 1) := by decide +kernel
theorem dX6_init_1 : decode cX6_init 1 = .ok (.invokespecial 3, 3) := by decide +kernel
theorem dX6_init_4 : decode cX6_init 4 = .ok (.aload_n 0, 1) := by decide +kernel
theorem dX6_init_5 : decode cX6_init 5 = .ok (.bipush 6, 2) := by decide +kernel
theorem dX6_init_7 : decode cX6_init 7 = .ok (.anewarray 9, 3) := by decide +kernel
theorem dX6_init_10 : decode cX6_init 10 = .ok (.dup, 1) := by decide +kernel
theorem dX6_init_11 : decode cX6_init 11 = .ok (.iconst 0, 1) := by decide +kernel
theorem dX6_init_12 : decode cX6_init 12 = .ok (.new 9, 3) := by decide +kernel
theorem dX6_init_15 : decode cX6_init 15 = .ok (.dup, 1) := by decide +kernel
theorem dX6_init_16 : decode cX6_init 16 = .ok (.invokespecial 11, 3) := by decide +kernel
theorem dX6_init_19 : decode cX6_init 19 = .ok (.aastore, 1) := by decide +kernel
theorem dX6_init_20 : decode cX6_init 20 = .ok (.dup, 1) := by decide +kernel
theorem dX6_init_21 : decode cX6_init 21 = .ok (.iconst 1, 1) := by decide +kernel
theorem dX6_init_22 : decode cX6_init 22 = .ok (.new 12, 3) := by decide +kernel
theorem dX6_init_25 : decode cX6_init 25 = .ok (.dup, 1) := by decide +kernel
theorem dX6_init_26 : decode cX6_init 26 = .ok (.invokespecial 14, 3) := by decide +kernel
theorem dX6_init_29 : decode cX6_init 29 = .ok (.aastore, 1) := by decide +kernel
theorem dX6_init_30 : decode cX6_init 30 = .ok (.dup, 1) := by decide +kernel
theorem dX6_init_31 : decode cX6_init 31 = .ok (.iconst 2, 1) := by decide +kernel
theorem dX6_init_32 : decode cX6_init 32 = .ok (.new 15, 3) := by decide +kernel
theorem dX6_init_35 : decode cX6_init 35 = .ok (.dup, 1) := by decide +kernel
theorem dX6_init_36 : decode cX6_init 36 = .ok (.invokespecial 17, 3) := by decide +kernel
theorem dX6_init_39 : decode cX6_init 39 = .ok (.aastore, 1) := by decide +kernel
theorem dX6_init_40 : decode cX6_init 40 = .ok (.dup, 1) := by decide +kernel
theorem dX6_init_41 : decode cX6_init 41 = .ok (.iconst 3, 1) := by decide +kernel
theorem dX6_init_42 : decode cX6_init 42 = .ok (.new 18, 3) := by decide +kernel
theorem dX6_init_45 : decode cX6_init 45 = .ok (.dup, 1) := by decide +kernel
theorem dX6_init_46 : decode cX6_init 46 = .ok (.invokespecial 20, 3) := by decide +kernel
theorem dX6_init_49 : decode cX6_init 49 = .ok (.aastore, 1) := by decide +kernel
theorem dX6_init_50 : decode cX6_init 50 = .ok (.dup, 1) := by decide +kernel
theorem dX6_init_51 : decode cX6_init 51 = .ok (.iconst 4, 1) := by decide +kernel
theorem dX6_init_52 : decode cX6_init 52 = .ok (.new 21, 3) := by decide +kernel
theorem dX6_init_55 : decode cX6_init 55 = .ok (.dup, 1) := by decide +kernel
theorem dX6_init_56 : decode cX6_init 56 = .ok (.invokespecial 23, 3) := by decide +kernel
theorem dX6_init_59 : decode cX6_init 59 = .ok (.aastore, 1) := by decide +kernel
theorem dX6_init_60 : decode cX6_init 60 = .ok (.dup, 1) := by decide +kernel
theorem dX6_init_61 : decode cX6_init 61 = .ok (.iconst 5, 1) := by decide +kernel
theorem dX6_init_62 : decode cX6_init 62 = .ok (.new 24, 3) := by decide +kernel
theorem dX6_init_65 : decode cX6_init 65 = .ok (.dup, 1) := by decide +kernel
theorem dX6_init_66 : decode cX6_init 66 = .ok (.invokespecial 26, 3) := by decide +kernel
theorem dX6_init_69 : decode cX6_init 69 = .ok (.aastore, 1) := by decide +kernel
theorem dX6_init_70 : decode cX6_init 70 = .ok (.putfield 27, 3) := by decide +kernel
theorem dX6_init_73 : decode cX6_init 73 = .ok (.aload_n 0, 1) := by decide +kernel
theorem dX6_init_74 : decode cX6_init 74 = .ok (.bipush 10, 2) := by decide +kernel
theorem dX6_init_76 : decode cX6_init 76 = .ok (.newarray .int, 2) := by decide +kernel
theorem dX6_init_78 : decode cX6_init 78 = .ok (.putfield 33, 3) := by decide +kernel
theorem dX6_init_81 : decode cX6_init 81 = .ok (.aload_n 0, 1) := by decide +kernel
theorem dX6_init_82 : decode cX6_init 82 = .ok (.bipush 10, 2) := by decide +kernel
theorem dX6_init_84 : decode cX6_init 84 = .ok (.newarray .int, 2) := by decide +kernel
theorem dX6_init_86 : decode cX6_init 86 = .ok (.putfield 37, 3) := by decide +kernel
theorem dX6_init_89 : decode cX6_init 89 = .ok (.aload_n 0, 1) := by decide +kernel
theorem dX6_init_90 : decode cX6_init 90 = .ok (.bipush 10, 2) := by decide +kernel
theorem dX6_init_92 : decode cX6_init 92 = .ok (.newarray .int, 2) := by decide +kernel
theorem dX6_init_94 : decode cX6_init 94 = .ok (.putfield 40, 3) := by decide +kernel
theorem dX6_init_97 : decode cX6_init 97 = .ok (.return_, 1) := by decide +kernel
theorem dX6_turnsAs_0 : decode cX6_turnsAs 0 = .ok (.iload_n 1, 1) := by decide +kernel
theorem dX6_turnsAs_1 : decode cX6_turnsAs 1 = .ok (.aload_n 0, 1) := by decide +kernel
theorem dX6_turnsAs_2 : decode cX6_turnsAs 2 = .ok (.getfield 27, 3) := by decide +kernel
theorem dX6_turnsAs_5 : decode cX6_turnsAs 5 = .ok (.arraylength, 1) := by decide +kernel
theorem dX6_turnsAs_6 : decode cX6_turnsAs 6 = .ok (.invokestatic 43, 3) := by decide +kernel
theorem dX6_turnsAs_9 : decode cX6_turnsAs 9 = .ok (.ifCond .eq 25, 3) := by decide +kernel
theorem dX6_turnsAs_12 : decode cX6_turnsAs 12 = .ok (.aload_n 0, 1) := by decide +kernel
theorem dX6_turnsAs_13 : decode cX6_turnsAs 13 = .ok (.getfield 27, 3) := by decide +kernel
theorem dX6_turnsAs_16 : decode cX6_turnsAs 16 = .ok (.iload_n 1, 1) := by decide +kernel
theorem dX6_turnsAs_17 : decode cX6_turnsAs 17 = .ok (.aaload, 1) := by decide +kernel
theorem dX6_turnsAs_18 : decode cX6_turnsAs 18 = .ok (.iload_n 2, 1) := by decide +kernel
theorem dX6_turnsAs_19 : decode cX6_turnsAs 19 = .ok (.iload_n 3, 1) := by decide +kernel
theorem dX6_turnsAs_20 : decode cX6_turnsAs 20 = .ok (.iload 4, 2) := by decide +kernel
theorem dX6_turnsAs_22 : decode cX6_turnsAs 22 = .ok (.iload 5, 2) := by decide +kernel
theorem dX6_turnsAs_24 : decode cX6_turnsAs 24 = .ok (.invokevirtual 47, 3) := by decide +kernel
theorem dX6_turnsAs_27 : decode cX6_turnsAs 27 = .ok (.ifCond .eq 7, 3) := by decide +kernel
theorem dX6_turnsAs_30 : decode cX6_turnsAs 30 = .ok (.iconst 1, 1) := by decide +kernel
theorem dX6_turnsAs_31 : decode cX6_turnsAs 31 = .ok (.goto 4, 3) := by decide +kernel
theorem dX6_turnsAs_34 : decode cX6_turnsAs 34 = .ok (.iconst 0, 1) := by decide +kernel
theorem dX6_turnsAs_35 : decode cX6_turnsAs 35 = .ok (.ireturn, 1) := by decide +kernel
theorem dX6_listen_0 : decode cX6_listen 0 = .ok (.iconst 0, 1) := by decide +kernel
theorem dX6_listen_1 : decode cX6_listen 1 = .ok (.istore_n 2, 1) := by decide +kernel
theorem dX6_listen_2 : decode cX6_listen 2 = .ok (.iload_n 2, 1) := by decide +kernel
theorem dX6_listen_3 : decode cX6_listen 3 = .ok (.bipush 10, 2) := by decide +kernel
theorem dX6_listen_5 : decode cX6_listen 5 = .ok (.if_icmp .ge 15, 3) := by decide +kernel
theorem dX6_listen_8 : decode cX6_listen 8 = .ok (.aload_n 0, 1) := by decide +kernel
theorem dX6_listen_9 : decode cX6_listen 9 = .ok (.aload_n 1, 1) := by decide +kernel
theorem dX6_listen_10 : decode cX6_listen 10 = .ok (.iload_n 2, 1) := by decide +kernel
theorem dX6_listen_11 : decode cX6_listen 11 = .ok (.invokevirtual 51, 3) := by decide +kernel
theorem dX6_listen_14 : decode cX6_listen 14 = .ok (.iinc 2 1, 3) := by decide +kernel
theorem dX6_listen_17 : decode cX6_listen 17 = .ok (.goto (-15), 3) := by decide +kernel
theorem dX6_listen_20 : decode cX6_listen 20 = .ok (.return_, 1) := by decide +kernel
theorem dX6_listenAt_0 : decode cX6_listenAt 0 = .ok (.iload_n 2, 1) := by decide +kernel
theorem dX6_listenAt_1 : decode cX6_listenAt 1 = .ok (.bipush 10, 2) := by decide +kernel
theorem dX6_listenAt_3 : decode cX6_listenAt 3 = .ok (.invokestatic 43, 3) := by decide +kernel
theorem dX6_listenAt_6 : decode cX6_listenAt 6 = .ok (.ifCond .ne 4, 3) := by decide +kernel
theorem dX6_listenAt_9 : decode cX6_listenAt 9 = .ok (.return_, 1) := by decide +kernel
theorem dX6_listenAt_10 : decode cX6_listenAt 10 = .ok (.aload_n 0, 1) := by decide +kernel
theorem dX6_listenAt_11 : decode cX6_listenAt 11 = .ok (.getfield 33, 3) := by decide +kernel
theorem dX6_listenAt_14 : decode cX6_listenAt 14 = .ok (.iload_n 2, 1) := by decide +kernel
theorem dX6_listenAt_15 : decode cX6_listenAt 15 = .ok (.iconst 0, 1) := by decide +kernel
theorem dX6_listenAt_16 : decode cX6_listenAt 16 = .ok (.iastore, 1) := by decide +kernel
theorem dX6_listenAt_17 : decode cX6_listenAt 17 = .ok (.aload_n 0, 1) := by decide +kernel
theorem dX6_listenAt_18 : decode cX6_listenAt 18 = .ok (.getfield 37, 3) := by decide +kernel
theorem dX6_listenAt_21 : decode cX6_listenAt 21 = .ok (.iload_n 2, 1) := by decide +kernel
theorem dX6_listenAt_22 : decode cX6_listenAt 22 = .ok (.iconst 0, 1) := by decide +kernel
theorem dX6_listenAt_23 : decode cX6_listenAt 23 = .ok (.iastore, 1) := by decide +kernel
theorem dX6_listenAt_24 : decode cX6_listenAt 24 = .ok (.aload_n 0, 1) := by decide +kernel
theorem dX6_listenAt_25 : decode cX6_listenAt 25 = .ok (.getfield 40, 3) := by decide +kernel
theorem dX6_listenAt_28 : decode cX6_listenAt 28 = .ok (.iload_n 2, 1) := by decide +kernel
theorem dX6_listenAt_29 : decode cX6_listenAt 29 = .ok (.iconst 0, 1) := by decide +kernel
theorem dX6_listenAt_30 : decode cX6_listenAt 30 = .ok (.iastore, 1) := by decide +kernel
theorem dX6_listenAt_31 : decode cX6_listenAt 31 = .ok (.iconst 0, 1) := by decide +kernel
theorem dX6_listenAt_32 : decode cX6_listenAt 32 = .ok (.istore_n 3, 1) := by decide +kernel
theorem dX6_listenAt_33 : decode cX6_listenAt 33 = .ok (.iload_n 3, 1) := by decide +kernel
theorem dX6_listenAt_34 : decode cX6_listenAt 34 = .ok (.aload_n 1, 1) := by decide +kernel
theorem dX6_listenAt_35 : decode cX6_listenAt 35 = .ok (.getfield 55, 3) := by decide +kernel
theorem dX6_listenAt_38 : decode cX6_listenAt 38 = .ok (.if_icmp .ge 129, 3) := by decide +kernel
theorem dX6_listenAt_41 : decode cX6_listenAt 41 = .ok (.aload_n 1, 1) := by decide +kernel
theorem dX6_listenAt_42 : decode cX6_listenAt 42 = .ok (.getfield 61, 3) := by decide +kernel
theorem dX6_listenAt_45 : decode cX6_listenAt 45 = .ok (.iload_n 3, 1) := by decide +kernel
theorem dX6_listenAt_46 : decode cX6_listenAt 46 = .ok (.iaload, 1) := by decide +kernel
theorem dX6_listenAt_47 : decode cX6_listenAt 47 = .ok (.istore 4, 2) := by decide +kernel
theorem dX6_listenAt_49 : decode cX6_listenAt 49 = .ok (.aload_n 1, 1) := by decide +kernel
theorem dX6_listenAt_50 : decode cX6_listenAt 50 = .ok (.getfield 63, 3) := by decide +kernel
theorem dX6_listenAt_53 : decode cX6_listenAt 53 = .ok (.iload_n 3, 1) := by decide +kernel
theorem dX6_listenAt_54 : decode cX6_listenAt 54 = .ok (.iaload, 1) := by decide +kernel
theorem dX6_listenAt_55 : decode cX6_listenAt 55 = .ok (.iload_n 2, 1) := by decide +kernel
theorem dX6_listenAt_56 : decode cX6_listenAt 56 = .ok (.isub, 1) := by decide +kernel
theorem dX6_listenAt_57 : decode cX6_listenAt 57 = .ok (.invokestatic 66, 3) := by decide +kernel
theorem dX6_listenAt_60 : decode cX6_listenAt 60 = .ok (.istore 5, 2) := by decide +kernel
theorem dX6_listenAt_62 : decode cX6_listenAt 62 = .ok (.aload_n 0, 1) := by decide +kernel
theorem dX6_listenAt_63 : decode cX6_listenAt 63 = .ok (.getfield 33, 3) := by decide +kernel
theorem dX6_listenAt_66 : decode cX6_listenAt 66 = .ok (.iload_n 2, 1) := by decide +kernel
theorem dX6_listenAt_67 : decode cX6_listenAt 67 = .ok (.dup2, 1) := by decide +kernel
theorem dX6_listenAt_68 : decode cX6_listenAt 68 = .ok (.iaload, 1) := by decide +kernel
theorem dX6_listenAt_69 : decode cX6_listenAt 69 = .ok (.aload_n 0, 1) := by decide +kernel
theorem dX6_listenAt_70 : decode cX6_listenAt 70 = .ok (.iload 4, 2) := by decide +kernel
theorem dX6_listenAt_72 : decode cX6_listenAt 72 = .ok (.iload 5, 2) := by decide +kernel
theorem dX6_listenAt_74 : decode cX6_listenAt 74 = .ok (.iconst 1, 1) := by decide +kernel
theorem dX6_listenAt_75 : decode cX6_listenAt 75 = .ok (.iconst 0, 1) := by decide +kernel
theorem dX6_listenAt_76 : decode cX6_listenAt 76 = .ok (.aload_n 1, 1) := by decide +kernel
theorem dX6_listenAt_77 : decode cX6_listenAt 77 = .ok (.getfield 72, 3) := by decide +kernel
theorem dX6_listenAt_80 : decode cX6_listenAt 80 = .ok (.invokevirtual 75, 3) := by decide +kernel
theorem dX6_listenAt_83 : decode cX6_listenAt 83 = .ok (.ifCond .eq 9, 3) := by decide +kernel
theorem dX6_listenAt_86 : decode cX6_listenAt 86 = .ok (.iconst 1, 1) := by decide +kernel
theorem dX6_listenAt_87 : decode cX6_listenAt 87 = .ok (.iload_n 3, 1) := by decide +kernel
theorem dX6_listenAt_88 : decode cX6_listenAt 88 = .ok (.ishl, 1) := by decide +kernel
theorem dX6_listenAt_89 : decode cX6_listenAt 89 = .ok (.goto 4, 3) := by decide +kernel
theorem dX6_listenAt_92 : decode cX6_listenAt 92 = .ok (.iconst 0, 1) := by decide +kernel
theorem dX6_listenAt_93 : decode cX6_listenAt 93 = .ok (.ior, 1) := by decide +kernel
theorem dX6_listenAt_94 : decode cX6_listenAt 94 = .ok (.iastore, 1) := by decide +kernel
theorem dX6_listenAt_95 : decode cX6_listenAt 95 = .ok (.aload_n 0, 1) := by decide +kernel
theorem dX6_listenAt_96 : decode cX6_listenAt 96 = .ok (.getfield 37, 3) := by decide +kernel
theorem dX6_listenAt_99 : decode cX6_listenAt 99 = .ok (.iload_n 2, 1) := by decide +kernel
theorem dX6_listenAt_100 : decode cX6_listenAt 100 = .ok (.dup2, 1) := by decide +kernel
theorem dX6_listenAt_101 : decode cX6_listenAt 101 = .ok (.iaload, 1) := by decide +kernel
theorem dX6_listenAt_102 : decode cX6_listenAt 102 = .ok (.aload_n 0, 1) := by decide +kernel
theorem dX6_listenAt_103 : decode cX6_listenAt 103 = .ok (.iload 4, 2) := by decide +kernel
theorem dX6_listenAt_105 : decode cX6_listenAt 105 = .ok (.iload 5, 2) := by decide +kernel
theorem dX6_listenAt_107 : decode cX6_listenAt 107 = .ok (.iconst 0, 1) := by decide +kernel
theorem dX6_listenAt_108 : decode cX6_listenAt 108 = .ok (.iconst 0, 1) := by decide +kernel
theorem dX6_listenAt_109 : decode cX6_listenAt 109 = .ok (.aload_n 1, 1) := by decide +kernel
theorem dX6_listenAt_110 : decode cX6_listenAt 110 = .ok (.getfield 72, 3) := by decide +kernel
theorem dX6_listenAt_113 : decode cX6_listenAt 113 = .ok (.invokevirtual 75, 3) := by decide +kernel
theorem dX6_listenAt_116 : decode cX6_listenAt 116 = .ok (.ifCond .eq 9, 3) := by decide +kernel
theorem dX6_listenAt_119 : decode cX6_listenAt 119 = .ok (.iconst 1, 1) := by decide +kernel
theorem dX6_listenAt_120 : decode cX6_listenAt 120 = .ok (.iload_n 3, 1) := by decide +kernel
theorem dX6_listenAt_121 : decode cX6_listenAt 121 = .ok (.ishl, 1) := by decide +kernel
theorem dX6_listenAt_122 : decode cX6_listenAt 122 = .ok (.goto 4, 3) := by decide +kernel
theorem dX6_listenAt_125 : decode cX6_listenAt 125 = .ok (.iconst 0, 1) := by decide +kernel
theorem dX6_listenAt_126 : decode cX6_listenAt 126 = .ok (.ior, 1) := by decide +kernel
theorem dX6_listenAt_127 : decode cX6_listenAt 127 = .ok (.iastore, 1) := by decide +kernel
theorem dX6_listenAt_128 : decode cX6_listenAt 128 = .ok (.aload_n 0, 1) := by decide +kernel
theorem dX6_listenAt_129 : decode cX6_listenAt 129 = .ok (.getfield 40, 3) := by decide +kernel
theorem dX6_listenAt_132 : decode cX6_listenAt 132 = .ok (.iload_n 2, 1) := by decide +kernel
theorem dX6_listenAt_133 : decode cX6_listenAt 133 = .ok (.dup2, 1) := by decide +kernel
theorem dX6_listenAt_134 : decode cX6_listenAt 134 = .ok (.iaload, 1) := by decide +kernel
theorem dX6_listenAt_135 : decode cX6_listenAt 135 = .ok (.aload_n 0, 1) := by decide +kernel
theorem dX6_listenAt_136 : decode cX6_listenAt 136 = .ok (.iload 4, 2) := by decide +kernel
theorem dX6_listenAt_138 : decode cX6_listenAt 138 = .ok (.iload 5, 2) := by decide +kernel
theorem dX6_listenAt_140 : decode cX6_listenAt 140 = .ok (.iconst 0, 1) := by decide +kernel
theorem dX6_listenAt_141 : decode cX6_listenAt 141 = .ok (.iconst 1, 1) := by decide +kernel
theorem dX6_listenAt_142 : decode cX6_listenAt 142 = .ok (.aload_n 1, 1) := by decide +kernel
theorem dX6_listenAt_143 : decode cX6_listenAt 143 = .ok (.getfield 72, 3) := by decide +kernel
theorem dX6_listenAt_146 : decode cX6_listenAt 146 = .ok (.invokevirtual 75, 3) := by decide +kernel
theorem dX6_listenAt_149 : decode cX6_listenAt 149 = .ok (.ifCond .eq 9, 3) := by decide +kernel
theorem dX6_listenAt_152 : decode cX6_listenAt 152 = .ok (.iconst 1, 1) := by decide +kernel
theorem dX6_listenAt_153 : decode cX6_listenAt 153 = .ok (.iload_n 3, 1) := by decide +kernel
theorem dX6_listenAt_154 : decode cX6_listenAt 154 = .ok (.ishl, 1) := by decide +kernel
theorem dX6_listenAt_155 : decode cX6_listenAt 155 = .ok (.goto 4, 3) := by decide +kernel
theorem dX6_listenAt_158 : decode cX6_listenAt 158 = .ok (.iconst 0, 1) := by decide +kernel
theorem dX6_listenAt_159 : decode cX6_listenAt 159 = .ok (.ior, 1) := by decide +kernel
theorem dX6_listenAt_160 : decode cX6_listenAt 160 = .ok (.iastore, 1) := by decide +kernel
theorem dX6_listenAt_161 : decode cX6_listenAt 161 = .ok (.iinc 3 1, 3) := by decide +kernel
theorem dX6_listenAt_164 : decode cX6_listenAt 164 = .ok (.goto (-131), 3) := by decide +kernel
theorem dX6_listenAt_167 : decode cX6_listenAt 167 = .ok (.return_, 1) := by decide +kernel
theorem dX6_turners_0 : decode cX6_turners 0 = .ok (.iload_n 2, 1) := by decide +kernel
theorem dX6_turners_1 : decode cX6_turners 1 = .ok (.aload_n 1, 1) := by decide +kernel
theorem dX6_turners_2 : decode cX6_turners 2 = .ok (.arraylength, 1) := by decide +kernel
theorem dX6_turners_3 : decode cX6_turners 3 = .ok (.invokestatic 43, 3) := by decide +kernel
theorem dX6_turners_6 : decode cX6_turners 6 = .ok (.ifCond .eq 12, 3) := by decide +kernel
theorem dX6_turners_9 : decode cX6_turners 9 = .ok (.iload_n 3, 1) := by decide +kernel
theorem dX6_turners_10 : decode cX6_turners 10 = .ok (.bipush 10, 2) := by decide +kernel
theorem dX6_turners_12 : decode cX6_turners 12 = .ok (.invokestatic 43, 3) := by decide +kernel
theorem dX6_turners_15 : decode cX6_turners 15 = .ok (.ifCond .ne 5, 3) := by decide +kernel
theorem dX6_turners_18 : decode cX6_turners 18 = .ok (.iconst 0, 1) := by decide +kernel
theorem dX6_turners_19 : decode cX6_turners 19 = .ok (.ireturn, 1) := by decide +kernel
theorem dX6_turners_20 : decode cX6_turners 20 = .ok (.aload_n 1, 1) := by decide +kernel
theorem dX6_turners_21 : decode cX6_turners 21 = .ok (.iload_n 2, 1) := by decide +kernel
theorem dX6_turners_22 : decode cX6_turners 22 = .ok (.iaload, 1) := by decide +kernel
theorem dX6_turners_23 : decode cX6_turners 23 = .ok (.istore 4, 2) := by decide +kernel
theorem dX6_turners_25 : decode cX6_turners 25 = .ok (.iload 4, 2) := by decide +kernel
theorem dX6_turners_27 : decode cX6_turners 27 = .ok (.ifCond .ne 10, 3) := by decide +kernel
theorem dX6_turners_30 : decode cX6_turners 30 = .ok (.aload_n 0, 1) := by decide +kernel
theorem dX6_turners_31 : decode cX6_turners 31 = .ok (.getfield 40, 3) := by decide +kernel
theorem dX6_turners_34 : decode cX6_turners 34 = .ok (.iload_n 3, 1) := by decide +kernel
theorem dX6_turners_35 : decode cX6_turners 35 = .ok (.iaload, 1) := by decide +kernel
theorem dX6_turners_36 : decode cX6_turners 36 = .ok (.ireturn, 1) := by decide +kernel
theorem dX6_turners_37 : decode cX6_turners 37 = .ok (.aload_n 0, 1) := by decide +kernel
theorem dX6_turners_38 : decode cX6_turners 38 = .ok (.getfield 33, 3) := by decide +kernel
theorem dX6_turners_41 : decode cX6_turners 41 = .ok (.iload_n 3, 1) := by decide +kernel
theorem dX6_turners_42 : decode cX6_turners 42 = .ok (.iaload, 1) := by decide +kernel
theorem dX6_turners_43 : decode cX6_turners 43 = .ok (.iload 4, 2) := by decide +kernel
theorem dX6_turners_45 : decode cX6_turners 45 = .ok (.iand, 1) := by decide +kernel
theorem dX6_turners_46 : decode cX6_turners 46 = .ok (.aload_n 0, 1) := by decide +kernel
theorem dX6_turners_47 : decode cX6_turners 47 = .ok (.getfield 37, 3) := by decide +kernel
theorem dX6_turners_50 : decode cX6_turners 50 = .ok (.iload_n 3, 1) := by decide +kernel
theorem dX6_turners_51 : decode cX6_turners 51 = .ok (.iaload, 1) := by decide +kernel
theorem dX6_turners_52 : decode cX6_turners 52 = .ok (.iload 4, 2) := by decide +kernel
theorem dX6_turners_54 : decode cX6_turners 54 = .ok (.iconst (-1), 1) := by decide +kernel
theorem dX6_turners_55 : decode cX6_turners 55 = .ok (.ixor, 1) := by decide +kernel
theorem dX6_turners_56 : decode cX6_turners 56 = .ok (.iand, 1) := by decide +kernel
theorem dX6_turners_57 : decode cX6_turners 57 = .ok (.ior, 1) := by decide +kernel
theorem dX6_turners_58 : decode cX6_turners 58 = .ok (.ireturn, 1) := by decide +kernel
theorem dX7_init_0 : decode cX7_init 0 = .ok (.aload_n 0, 1) := by decide +kernel
theorem dX7_init_1 : decode cX7_init 1 = .ok (.invokespecial 1, 3) := by decide +kernel
theorem dX7_init_4 : decode cX7_init 4 = .ok (.return_, 1) := by decide +kernel
theorem dX7_turns_0 : decode cX7_turns 0 = .ok (.iload_n 1, 1) := by decide +kernel
theorem dX7_turns_1 : decode cX7_turns 1 = .ok (.iconst 3, 1) := by decide +kernel
theorem dX7_turns_2 : decode cX7_turns 2 = .ok (.if_icmp .gt 7, 3) := by decide +kernel
theorem dX7_turns_5 : decode cX7_turns 5 = .ok (.iconst 1, 1) := by decide +kernel
theorem dX7_turns_6 : decode cX7_turns 6 = .ok (.goto 4, 3) := by decide +kernel
theorem dX7_turns_9 : decode cX7_turns 9 = .ok (.iconst 0, 1) := by decide +kernel
theorem dX7_turns_10 : decode cX7_turns 10 = .ok (.ireturn, 1) := by decide +kernel
theorem dX8_init_0 : decode cX8_init 0 = .ok (.aload_n 0, 1) := by decide +kernel
theorem dX8_init_1 : decode cX8_init 1 = .ok (.invokespecial 3, 3) := by decide +kernel
theorem dX8_init_4 : decode cX8_init 4 = .ok (.aload_n 0, 1) := by decide +kernel
theorem dX8_init_5 : decode cX8_init 5 = .ok (.bipush 7, 2) := by decide +kernel
theorem dX8_init_7 : decode cX8_init 7 = .ok (.newarray .int, 2) := by decide +kernel
theorem dX8_init_9 : decode cX8_init 9 = .ok (.putfield 9, 3) := by decide +kernel
theorem dX8_init_12 : decode cX8_init 12 = .ok (.return_, 1) := by decide +kernel
theorem dX8_toBear_0 : decode cX8_toBear 0 = .ok (.aload_n 0, 1) := by decide +kernel
theorem dX8_toBear_1 : decode cX8_toBear 1 = .ok (.iconst 0, 1) := by decide +kernel
theorem dX8_toBear_2 : decode cX8_toBear 2 = .ok (.putfield 15, 3) := by decide +kernel
theorem dX8_toBear_5 : decode cX8_toBear 5 = .ok (.aload_n 0, 1) := by decide +kernel
theorem dX8_toBear_6 : decode cX8_toBear 6 = .ok (.iconst (-1), 1) := by decide +kernel
theorem dX8_toBear_7 : decode cX8_toBear 7 = .ok (.putfield 19, 3) := by decide +kernel
theorem dX8_toBear_10 : decode cX8_toBear 10 = .ok (.aload_n 1, 1) := by decide +kernel
theorem dX8_toBear_11 : decode cX8_toBear 11 = .ok (.iload_n 3, 1) := by decide +kernel
theorem dX8_toBear_12 : decode cX8_toBear 12 = .ok (.invokevirtual 22, 3) := by decide +kernel
theorem dX8_toBear_15 : decode cX8_toBear 15 = .ok (.iload 4, 2) := by decide +kernel
theorem dX8_toBear_17 : decode cX8_toBear 17 = .ok (.if_icmp .ne 4, 3) := by decide +kernel
theorem dX8_toBear_20 : decode cX8_toBear 20 = .ok (.return_, 1) := by decide +kernel
theorem dX8_toBear_21 : decode cX8_toBear 21 = .ok (.aload_n 0, 1) := by decide +kernel
theorem dX8_toBear_22 : decode cX8_toBear 22 = .ok (.iconst 1, 1) := by decide +kernel
theorem dX8_toBear_23 : decode cX8_toBear 23 = .ok (.putfield 15, 3) := by decide +kernel
theorem dX8_toBear_26 : decode cX8_toBear 26 = .ok (.aload_n 0, 1) := by decide +kernel
theorem dX8_toBear_27 : decode cX8_toBear 27 = .ok (.aload_n 0, 1) := by decide +kernel
theorem dX8_toBear_28 : decode cX8_toBear 28 = .ok (.aload_n 1, 1) := by decide +kernel
theorem dX8_toBear_29 : decode cX8_toBear 29 = .ok (.getfield 28, 3) := by decide +kernel
theorem dX8_toBear_32 : decode cX8_toBear 32 = .ok (.aload_n 2, 1) := by decide +kernel
theorem dX8_toBear_33 : decode cX8_toBear 33 = .ok (.iload_n 3, 1) := by decide +kernel
theorem dX8_toBear_34 : decode cX8_toBear 34 = .ok (.iload 4, 2) := by decide +kernel
theorem dX8_toBear_36 : decode cX8_toBear 36 = .ok (.invokevirtual 31, 3) := by decide +kernel
theorem dX8_toBear_39 : decode cX8_toBear 39 = .ok (.putfield 19, 3) := by decide +kernel
theorem dX8_toBear_42 : decode cX8_toBear 42 = .ok (.aload_n 0, 1) := by decide +kernel
theorem dX8_toBear_43 : decode cX8_toBear 43 = .ok (.getfield 19, 3) := by decide +kernel
theorem dX8_toBear_46 : decode cX8_toBear 46 = .ok (.iconst (-1), 1) := by decide +kernel
theorem dX8_toBear_47 : decode cX8_toBear 47 = .ok (.if_icmp .eq 4, 3) := by decide +kernel
theorem dX8_toBear_50 : decode cX8_toBear 50 = .ok (.return_, 1) := by decide +kernel
theorem dX8_toBear_51 : decode cX8_toBear 51 = .ok (.aload_n 0, 1) := by decide +kernel
theorem dX8_toBear_52 : decode cX8_toBear 52 = .ok (.iconst 2, 1) := by decide +kernel
theorem dX8_toBear_53 : decode cX8_toBear 53 = .ok (.putfield 15, 3) := by decide +kernel
theorem dX8_toBear_56 : decode cX8_toBear 56 = .ok (.iconst 0, 1) := by decide +kernel
theorem dX8_toBear_57 : decode cX8_toBear 57 = .ok (.istore 5, 2) := by decide +kernel
theorem dX8_toBear_59 : decode cX8_toBear 59 = .ok (.iload 5, 2) := by decide +kernel
theorem dX8_toBear_61 : decode cX8_toBear 61 = .ok (.bipush 10, 2) := by decide +kernel
theorem dX8_toBear_63 : decode cX8_toBear 63 = .ok (.aload_n 1, 1) := by decide +kernel
theorem dX8_toBear_64 : decode cX8_toBear 64 = .ok (.getfield 35, 3) := by decide +kernel
theorem dX8_toBear_67 : decode cX8_toBear 67 = .ok (.imul, 1) := by decide +kernel
theorem dX8_toBear_68 : decode cX8_toBear 68 = .ok (.if_icmp .ge 40, 3) := by decide +kernel
theorem dX8_toBear_71 : decode cX8_toBear 71 = .ok (.aload_n 0, 1) := by decide +kernel
theorem dX8_toBear_72 : decode cX8_toBear 72 = .ok (.aload_n 1, 1) := by decide +kernel
theorem dX8_toBear_73 : decode cX8_toBear 73 = .ok (.aload_n 2, 1) := by decide +kernel
theorem dX8_toBear_74 : decode cX8_toBear 74 = .ok (.iload 5, 2) := by decide +kernel
theorem dX8_toBear_76 : decode cX8_toBear 76 = .ok (.invokevirtual 38, 3) := by decide +kernel
theorem dX8_toBear_79 : decode cX8_toBear 79 = .ok (.aload_n 0, 1) := by decide +kernel
theorem dX8_toBear_80 : decode cX8_toBear 80 = .ok (.aload_n 0, 1) := by decide +kernel
theorem dX8_toBear_81 : decode cX8_toBear 81 = .ok (.getfield 9, 3) := by decide +kernel
theorem dX8_toBear_84 : decode cX8_toBear 84 = .ok (.aload_n 2, 1) := by decide +kernel
theorem dX8_toBear_85 : decode cX8_toBear 85 = .ok (.iload_n 3, 1) := by decide +kernel
theorem dX8_toBear_86 : decode cX8_toBear 86 = .ok (.iload 4, 2) := by decide +kernel
theorem dX8_toBear_88 : decode cX8_toBear 88 = .ok (.invokevirtual 31, 3) := by decide +kernel
theorem dX8_toBear_91 : decode cX8_toBear 91 = .ok (.iconst (-1), 1) := by decide +kernel
theorem dX8_toBear_92 : decode cX8_toBear 92 = .ok (.if_icmp .eq 10, 3) := by decide +kernel
theorem dX8_toBear_95 : decode cX8_toBear 95 = .ok (.aload_n 0, 1) := by decide +kernel
theorem dX8_toBear_96 : decode cX8_toBear 96 = .ok (.iload 5, 2) := by decide +kernel
theorem dX8_toBear_98 : decode cX8_toBear 98 = .ok (.putfield 19, 3) := by decide +kernel
theorem dX8_toBear_101 : decode cX8_toBear 101 = .ok (.return_, 1) := by decide +kernel
theorem dX8_toBear_102 : decode cX8_toBear 102 = .ok (.iinc 5 1, 3) := by decide +kernel
theorem dX8_toBear_105 : decode cX8_toBear 105 = .ok (.goto (-46), 3) := by decide +kernel
theorem dX8_toBear_108 : decode cX8_toBear 108 = .ok (.aload_n 0, 1) := by decide +kernel
theorem dX8_toBear_109 : decode cX8_toBear 109 = .ok (.iconst (-1), 1) := by decide +kernel
theorem dX8_toBear_110 : decode cX8_toBear 110 = .ok (.putfield 15, 3) := by decide +kernel
theorem dX8_toBear_113 : decode cX8_toBear 113 = .ok (.return_, 1) := by decide +kernel
theorem dX8_lastCall_0 : decode cX8_lastCall 0 = .ok (.iconst 0, 1) := by decide +kernel
theorem dX8_lastCall_1 : decode cX8_lastCall 1 = .ok (.istore 5, 2) := by decide +kernel
theorem dX8_lastCall_3 : decode cX8_lastCall 3 = .ok (.iload 5, 2) := by decide +kernel
theorem dX8_lastCall_5 : decode cX8_lastCall 5 = .ok (.bipush 10, 2) := by decide +kernel
theorem dX8_lastCall_7 : decode cX8_lastCall 7 = .ok (.if_icmp .ge 35, 3) := by decide +kernel
theorem dX8_lastCall_10 : decode cX8_lastCall 10 = .ok (.aload_n 2, 1) := by decide +kernel
theorem dX8_lastCall_11 : decode cX8_lastCall 11 = .ok (.aload_n 1, 1) := by decide +kernel
theorem dX8_lastCall_12 : decode cX8_lastCall 12 = .ok (.iload 4, 2) := by decide +kernel
theorem dX8_lastCall_14 : decode cX8_lastCall 14 = .ok (.iload 5, 2) := by decide +kernel
theorem dX8_lastCall_16 : decode cX8_lastCall 16 = .ok (.invokevirtual 42, 3) := by decide +kernel
theorem dX8_lastCall_19 : decode cX8_lastCall 19 = .ok (.iload_n 3, 1) := by decide +kernel
theorem dX8_lastCall_20 : decode cX8_lastCall 20 = .ok (.invokestatic 48, 3) := by decide +kernel
theorem dX8_lastCall_23 : decode cX8_lastCall 23 = .ok (.iconst 1, 1) := by decide +kernel
theorem dX8_lastCall_24 : decode cX8_lastCall 24 = .ok (.if_icmp .ne 12, 3) := by decide +kernel
theorem dX8_lastCall_27 : decode cX8_lastCall 27 = .ok (.bipush 10, 2) := by decide +kernel
theorem dX8_lastCall_29 : decode cX8_lastCall 29 = .ok (.iload 4, 2) := by decide +kernel
theorem dX8_lastCall_31 : decode cX8_lastCall 31 = .ok (.imul, 1) := by decide +kernel
theorem dX8_lastCall_32 : decode cX8_lastCall 32 = .ok (.iload 5, 2) := by decide +kernel
theorem dX8_lastCall_34 : decode cX8_lastCall 34 = .ok (.iadd, 1) := by decide +kernel
theorem dX8_lastCall_35 : decode cX8_lastCall 35 = .ok (.ireturn, 1) := by decide +kernel
theorem dX8_lastCall_36 : decode cX8_lastCall 36 = .ok (.iinc 5 1, 3) := by decide +kernel
theorem dX8_lastCall_39 : decode cX8_lastCall 39 = .ok (.goto (-36), 3) := by decide +kernel
theorem dX8_lastCall_42 : decode cX8_lastCall 42 = .ok (.iconst (-1), 1) := by decide +kernel
theorem dX8_lastCall_43 : decode cX8_lastCall 43 = .ok (.ireturn, 1) := by decide +kernel
theorem dX8_ownAgain_0 : decode cX8_ownAgain 0 = .ok (.aload_n 0, 1) := by decide +kernel
theorem dX8_ownAgain_1 : decode cX8_ownAgain 1 = .ok (.iconst 0, 1) := by decide +kernel
theorem dX8_ownAgain_2 : decode cX8_ownAgain 2 = .ok (.putfield 15, 3) := by decide +kernel
theorem dX8_ownAgain_5 : decode cX8_ownAgain 5 = .ok (.aload_n 0, 1) := by decide +kernel
theorem dX8_ownAgain_6 : decode cX8_ownAgain 6 = .ok (.iconst (-1), 1) := by decide +kernel
theorem dX8_ownAgain_7 : decode cX8_ownAgain 7 = .ok (.putfield 19, 3) := by decide +kernel
theorem dX8_ownAgain_10 : decode cX8_ownAgain 10 = .ok (.aload_n 0, 1) := by decide +kernel
theorem dX8_ownAgain_11 : decode cX8_ownAgain 11 = .ok (.aload_n 1, 1) := by decide +kernel
theorem dX8_ownAgain_12 : decode cX8_ownAgain 12 = .ok (.getfield 28, 3) := by decide +kernel
theorem dX8_ownAgain_15 : decode cX8_ownAgain 15 = .ok (.invokestatic 52, 3) := by decide +kernel
theorem dX8_ownAgain_18 : decode cX8_ownAgain 18 = .ok (.invokestatic 56, 3) := by decide +kernel
theorem dX8_ownAgain_21 : decode cX8_ownAgain 21 = .ok (.putfield 61, 3) := by decide +kernel
theorem dX8_ownAgain_24 : decode cX8_ownAgain 24 = .ok (.bipush 10, 2) := by decide +kernel
theorem dX8_ownAgain_26 : decode cX8_ownAgain 26 = .ok (.aload_n 1, 1) := by decide +kernel
theorem dX8_ownAgain_27 : decode cX8_ownAgain 27 = .ok (.getfield 35, 3) := by decide +kernel
theorem dX8_ownAgain_30 : decode cX8_ownAgain 30 = .ok (.imul, 1) := by decide +kernel
theorem dX8_ownAgain_31 : decode cX8_ownAgain 31 = .ok (.istore_n 3, 1) := by decide +kernel
theorem dX8_ownAgain_32 : decode cX8_ownAgain 32 = .ok (.aload_n 0, 1) := by decide +kernel
theorem dX8_ownAgain_33 : decode cX8_ownAgain 33 = .ok (.aload_n 1, 1) := by decide +kernel
theorem dX8_ownAgain_34 : decode cX8_ownAgain 34 = .ok (.getfield 28, 3) := by decide +kernel
theorem dX8_ownAgain_37 : decode cX8_ownAgain 37 = .ok (.aload_n 2, 1) := by decide +kernel
theorem dX8_ownAgain_38 : decode cX8_ownAgain 38 = .ok (.iload_n 3, 1) := by decide +kernel
theorem dX8_ownAgain_39 : decode cX8_ownAgain 39 = .ok (.iconst (-1), 1) := by decide +kernel
theorem dX8_ownAgain_40 : decode cX8_ownAgain 40 = .ok (.invokevirtual 64, 3) := by decide +kernel
theorem dX8_ownAgain_43 : decode cX8_ownAgain 43 = .ok (.iconst 0, 1) := by decide +kernel
theorem dX8_ownAgain_44 : decode cX8_ownAgain 44 = .ok (.istore 4, 2) := by decide +kernel
theorem dX8_ownAgain_46 : decode cX8_ownAgain 46 = .ok (.iload 4, 2) := by decide +kernel
theorem dX8_ownAgain_48 : decode cX8_ownAgain 48 = .ok (.iload_n 3, 1) := by decide +kernel
theorem dX8_ownAgain_49 : decode cX8_ownAgain 49 = .ok (.if_icmp .ge 29, 3) := by decide +kernel
theorem dX8_ownAgain_52 : decode cX8_ownAgain 52 = .ok (.aload_n 0, 1) := by decide +kernel
theorem dX8_ownAgain_53 : decode cX8_ownAgain 53 = .ok (.aload_n 1, 1) := by decide +kernel
theorem dX8_ownAgain_54 : decode cX8_ownAgain 54 = .ok (.aload_n 2, 1) := by decide +kernel
theorem dX8_ownAgain_55 : decode cX8_ownAgain 55 = .ok (.iload 4, 2) := by decide +kernel
theorem dX8_ownAgain_57 : decode cX8_ownAgain 57 = .ok (.invokevirtual 38, 3) := by decide +kernel
theorem dX8_ownAgain_60 : decode cX8_ownAgain 60 = .ok (.aload_n 0, 1) := by decide +kernel
theorem dX8_ownAgain_61 : decode cX8_ownAgain 61 = .ok (.aload_n 0, 1) := by decide +kernel
theorem dX8_ownAgain_62 : decode cX8_ownAgain 62 = .ok (.getfield 9, 3) := by decide +kernel
theorem dX8_ownAgain_65 : decode cX8_ownAgain 65 = .ok (.aload_n 2, 1) := by decide +kernel
theorem dX8_ownAgain_66 : decode cX8_ownAgain 66 = .ok (.iload_n 3, 1) := by decide +kernel
theorem dX8_ownAgain_67 : decode cX8_ownAgain 67 = .ok (.iload 4, 2) := by decide +kernel
theorem dX8_ownAgain_69 : decode cX8_ownAgain 69 = .ok (.invokevirtual 64, 3) := by decide +kernel
theorem dX8_ownAgain_72 : decode cX8_ownAgain 72 = .ok (.iinc 4 1, 3) := by decide +kernel
theorem dX8_ownAgain_75 : decode cX8_ownAgain 75 = .ok (.goto (-29), 3) := by decide +kernel
theorem dX8_ownAgain_78 : decode cX8_ownAgain 78 = .ok (.return_, 1) := by decide +kernel
theorem dX8_tryLastCalls_0 : decode cX8_tryLastCalls 0 = .ok (.aload_n 1, 1) := by decide +kernel
theorem dX8_tryLastCalls_1 : decode cX8_tryLastCalls 1 = .ok (.invokestatic 52, 3) := by decide +kernel
theorem dX8_tryLastCalls_4 : decode cX8_tryLastCalls 4 = .ok (.istore 5, 2) := by decide +kernel
theorem dX8_tryLastCalls_6 : decode cX8_tryLastCalls 6 = .ok (.iconst 0, 1) := by decide +kernel
theorem dX8_tryLastCalls_7 : decode cX8_tryLastCalls 7 = .ok (.istore 6, 2) := by decide +kernel
theorem dX8_tryLastCalls_9 : decode cX8_tryLastCalls 9 = .ok (.iload 6, 2) := by decide +kernel
theorem dX8_tryLastCalls_11 : decode cX8_tryLastCalls 11 = .ok (.iload_n 3, 1) := by decide +kernel
theorem dX8_tryLastCalls_12 : decode cX8_tryLastCalls 12 = .ok (.if_icmp .ge 92, 3) := by decide +kernel
theorem dX8_tryLastCalls_15 : decode cX8_tryLastCalls 15 = .ok (.iload 6, 2) := by decide +kernel
theorem dX8_tryLastCalls_17 : decode cX8_tryLastCalls 17 = .ok (.bipush 10, 2) := by decide +kernel
theorem dX8_tryLastCalls_19 : decode cX8_tryLastCalls 19 = .ok (.idiv, 1) := by decide +kernel
theorem dX8_tryLastCalls_20 : decode cX8_tryLastCalls 20 = .ok (.istore 7, 2) := by decide +kernel
theorem dX8_tryLastCalls_22 : decode cX8_tryLastCalls 22 = .ok (.aload_n 2, 1) := by decide +kernel
theorem dX8_tryLastCalls_23 : decode cX8_tryLastCalls 23 = .ok (.aload_n 1, 1) := by decide +kernel
theorem dX8_tryLastCalls_24 : decode cX8_tryLastCalls 24 = .ok (.iload 7, 2) := by decide +kernel
theorem dX8_tryLastCalls_26 : decode cX8_tryLastCalls 26 = .ok (.iload 6, 2) := by decide +kernel
theorem dX8_tryLastCalls_28 : decode cX8_tryLastCalls 28 = .ok (.bipush 10, 2) := by decide +kernel
theorem dX8_tryLastCalls_30 : decode cX8_tryLastCalls 30 = .ok (.irem, 1) := by decide +kernel
theorem dX8_tryLastCalls_31 : decode cX8_tryLastCalls 31 = .ok (.invokevirtual 42, 3) := by decide +kernel
theorem dX8_tryLastCalls_34 : decode cX8_tryLastCalls 34 = .ok (.istore 8, 2) := by decide +kernel
theorem dX8_tryLastCalls_36 : decode cX8_tryLastCalls 36 = .ok (.aload_n 0, 1) := by decide +kernel
theorem dX8_tryLastCalls_37 : decode cX8_tryLastCalls 37 = .ok (.iload 5, 2) := by decide +kernel
theorem dX8_tryLastCalls_39 : decode cX8_tryLastCalls 39 = .ok (.iload 7, 2) := by decide +kernel
theorem dX8_tryLastCalls_41 : decode cX8_tryLastCalls 41 = .ok (.iload 8, 2) := by decide +kernel
theorem dX8_tryLastCalls_43 : decode cX8_tryLastCalls 43 = .ok (.invokevirtual 68, 3) := by decide +kernel
theorem dX8_tryLastCalls_46 : decode cX8_tryLastCalls 46 = .ok (.invokestatic 56, 3) := by decide +kernel
theorem dX8_tryLastCalls_49 : decode cX8_tryLastCalls 49 = .ok (.istore 9, 2) := by decide +kernel
theorem dX8_tryLastCalls_51 : decode cX8_tryLastCalls 51 = .ok (.iload 9, 2) := by decide +kernel
theorem dX8_tryLastCalls_53 : decode cX8_tryLastCalls 53 = .ok (.aload_n 0, 1) := by decide +kernel
theorem dX8_tryLastCalls_54 : decode cX8_tryLastCalls 54 = .ok (.getfield 61, 3) := by decide +kernel
theorem dX8_tryLastCalls_57 : decode cX8_tryLastCalls 57 = .ok (.if_icmp .le 41, 3) := by decide +kernel
theorem dX8_tryLastCalls_60 : decode cX8_tryLastCalls 60 = .ok (.aload_n 0, 1) := by decide +kernel
theorem dX8_tryLastCalls_61 : decode cX8_tryLastCalls 61 = .ok (.iload 9, 2) := by decide +kernel
theorem dX8_tryLastCalls_63 : decode cX8_tryLastCalls 63 = .ok (.putfield 61, 3) := by decide +kernel
theorem dX8_tryLastCalls_66 : decode cX8_tryLastCalls 66 = .ok (.aload_n 0, 1) := by decide +kernel
theorem dX8_tryLastCalls_67 : decode cX8_tryLastCalls 67 = .ok (.iload 4, 2) := by decide +kernel
theorem dX8_tryLastCalls_69 : decode cX8_tryLastCalls 69 = .ok (.iconst (-1), 1) := by decide +kernel
theorem dX8_tryLastCalls_70 : decode cX8_tryLastCalls 70 = .ok (.if_icmp .ne 7, 3) := by decide +kernel
theorem dX8_tryLastCalls_73 : decode cX8_tryLastCalls 73 = .ok (.iconst 1, 1) := by decide +kernel
theorem dX8_tryLastCalls_74 : decode cX8_tryLastCalls 74 = .ok (.goto 4, 3) := by decide +kernel
theorem dX8_tryLastCalls_77 : decode cX8_tryLastCalls 77 = .ok (.iconst 2, 1) := by decide +kernel
theorem dX8_tryLastCalls_78 : decode cX8_tryLastCalls 78 = .ok (.putfield 15, 3) := by decide +kernel
theorem dX8_tryLastCalls_81 : decode cX8_tryLastCalls 81 = .ok (.aload_n 0, 1) := by decide +kernel
theorem dX8_tryLastCalls_82 : decode cX8_tryLastCalls 82 = .ok (.iload 4, 2) := by decide +kernel
theorem dX8_tryLastCalls_84 : decode cX8_tryLastCalls 84 = .ok (.iconst (-1), 1) := by decide +kernel
theorem dX8_tryLastCalls_85 : decode cX8_tryLastCalls 85 = .ok (.if_icmp .ne 8, 3) := by decide +kernel
theorem dX8_tryLastCalls_88 : decode cX8_tryLastCalls 88 = .ok (.iload 6, 2) := by decide +kernel
theorem dX8_tryLastCalls_90 : decode cX8_tryLastCalls 90 = .ok (.goto 5, 3) := by decide +kernel
theorem dX8_tryLastCalls_93 : decode cX8_tryLastCalls 93 = .ok (.iload 4, 2) := by decide +kernel
theorem dX8_tryLastCalls_95 : decode cX8_tryLastCalls 95 = .ok (.putfield 19, 3) := by decide +kernel
theorem dX8_tryLastCalls_98 : decode cX8_tryLastCalls 98 = .ok (.iinc 6 1, 3) := by decide +kernel
theorem dX8_tryLastCalls_101 : decode cX8_tryLastCalls 101 = .ok (.goto (-92), 3) := by decide +kernel
theorem dX8_tryLastCalls_104 : decode cX8_tryLastCalls 104 = .ok (.return_, 1) := by decide +kernel
theorem dX8_ownersBehind_0 : decode cX8_ownersBehind 0 = .ok (.iload_n 3, 1) := by decide +kernel
theorem dX8_ownersBehind_1 : decode cX8_ownersBehind 1 = .ok (.ifCond .ne 5, 3) := by decide +kernel
theorem dX8_ownersBehind_4 : decode cX8_ownersBehind 4 = .ok (.iload_n 1, 1) := by decide +kernel
theorem dX8_ownersBehind_5 : decode cX8_ownersBehind 5 = .ok (.ireturn, 1) := by decide +kernel
theorem dX8_ownersBehind_6 : decode cX8_ownersBehind 6 = .ok (.iconst 1, 1) := by decide +kernel
theorem dX8_ownersBehind_7 : decode cX8_ownersBehind 7 = .ok (.iload_n 2, 1) := by decide +kernel
theorem dX8_ownersBehind_8 : decode cX8_ownersBehind 8 = .ok (.ishl, 1) := by decide +kernel
theorem dX8_ownersBehind_9 : decode cX8_ownersBehind 9 = .ok (.istore 4, 2) := by decide +kernel
theorem dX8_ownersBehind_11 : decode cX8_ownersBehind 11 = .ok (.iload_n 1, 1) := by decide +kernel
theorem dX8_ownersBehind_12 : decode cX8_ownersBehind 12 = .ok (.iload_n 3, 1) := by decide +kernel
theorem dX8_ownersBehind_13 : decode cX8_ownersBehind 13 = .ok (.iload 4, 2) := by decide +kernel
theorem dX8_ownersBehind_15 : decode cX8_ownersBehind 15 = .ok (.ior, 1) := by decide +kernel
theorem dX8_ownersBehind_16 : decode cX8_ownersBehind 16 = .ok (.iconst (-1), 1) := by decide +kernel
theorem dX8_ownersBehind_17 : decode cX8_ownersBehind 17 = .ok (.ixor, 1) := by decide +kernel
theorem dX8_ownersBehind_18 : decode cX8_ownersBehind 18 = .ok (.iand, 1) := by decide +kernel
theorem dX8_ownersBehind_19 : decode cX8_ownersBehind 19 = .ok (.iload_n 3, 1) := by decide +kernel
theorem dX8_ownersBehind_20 : decode cX8_ownersBehind 20 = .ok (.iload 4, 2) := by decide +kernel
theorem dX8_ownersBehind_22 : decode cX8_ownersBehind 22 = .ok (.iand, 1) := by decide +kernel
theorem dX8_ownersBehind_23 : decode cX8_ownersBehind 23 = .ok (.ior, 1) := by decide +kernel
theorem dX8_ownersBehind_24 : decode cX8_ownersBehind 24 = .ok (.ireturn, 1) := by decide +kernel
theorem dX8_callOnce_0 : decode cX8_callOnce 0 = .ok (.aload_n 1, 1) := by decide +kernel
theorem dX8_callOnce_1 : decode cX8_callOnce 1 = .ok (.getfield 28, 3) := by decide +kernel
theorem dX8_callOnce_4 : decode cX8_callOnce 4 = .ok (.iconst 0, 1) := by decide +kernel
theorem dX8_callOnce_5 : decode cX8_callOnce 5 = .ok (.aload_n 0, 1) := by decide +kernel
theorem dX8_callOnce_6 : decode cX8_callOnce 6 = .ok (.getfield 9, 3) := by decide +kernel
theorem dX8_callOnce_9 : decode cX8_callOnce 9 = .ok (.iconst 0, 1) := by decide +kernel
theorem dX8_callOnce_10 : decode cX8_callOnce 10 = .ok (.bipush 7, 2) := by decide +kernel
theorem dX8_callOnce_12 : decode cX8_callOnce 12 = .ok (.invokestatic 72, 3) := by decide +kernel
theorem dX8_callOnce_15 : decode cX8_callOnce 15 = .ok (.iload_n 3, 1) := by decide +kernel
theorem dX8_callOnce_16 : decode cX8_callOnce 16 = .ok (.bipush 10, 2) := by decide +kernel
theorem dX8_callOnce_18 : decode cX8_callOnce 18 = .ok (.idiv, 1) := by decide +kernel
theorem dX8_callOnce_19 : decode cX8_callOnce 19 = .ok (.istore 4, 2) := by decide +kernel
theorem dX8_callOnce_21 : decode cX8_callOnce 21 = .ok (.aload_n 0, 1) := by decide +kernel
theorem dX8_callOnce_22 : decode cX8_callOnce 22 = .ok (.getfield 9, 3) := by decide +kernel
theorem dX8_callOnce_25 : decode cX8_callOnce 25 = .ok (.iload 4, 2) := by decide +kernel
theorem dX8_callOnce_27 : decode cX8_callOnce 27 = .ok (.aload_n 2, 1) := by decide +kernel
theorem dX8_callOnce_28 : decode cX8_callOnce 28 = .ok (.aload_n 0, 1) := by decide +kernel
theorem dX8_callOnce_29 : decode cX8_callOnce 29 = .ok (.getfield 9, 3) := by decide +kernel
theorem dX8_callOnce_32 : decode cX8_callOnce 32 = .ok (.iload 4, 2) := by decide +kernel
theorem dX8_callOnce_34 : decode cX8_callOnce 34 = .ok (.iload_n 3, 1) := by decide +kernel
theorem dX8_callOnce_35 : decode cX8_callOnce 35 = .ok (.bipush 10, 2) := by decide +kernel
theorem dX8_callOnce_37 : decode cX8_callOnce 37 = .ok (.irem, 1) := by decide +kernel
theorem dX8_callOnce_38 : decode cX8_callOnce 38 = .ok (.invokevirtual 42, 3) := by decide +kernel
theorem dX8_callOnce_41 : decode cX8_callOnce 41 = .ok (.invokestatic 78, 3) := by decide +kernel
theorem dX8_callOnce_44 : decode cX8_callOnce 44 = .ok (.return_, 1) := by decide +kernel
theorem dX8_ownersBehindWeeks_0 : decode cX8_ownersBehindWeeks 0 = .ok (.aload_n 1, 1) := by decide +kernel
theorem dX8_ownersBehindWeeks_1 : decode cX8_ownersBehindWeeks 1 = .ok (.getfield 35, 3) := by decide +kernel
theorem dX8_ownersBehindWeeks_4 : decode cX8_ownersBehindWeeks 4 = .ok (.ifCond .gt 5, 3) := by decide +kernel
theorem dX8_ownersBehindWeeks_7 : decode cX8_ownersBehindWeeks 7 = .ok (.iconst 0, 1) := by decide +kernel
theorem dX8_ownersBehindWeeks_8 : decode cX8_ownersBehindWeeks 8 = .ok (.ireturn, 1) := by decide +kernel
theorem dX8_ownersBehindWeeks_9 : decode cX8_ownersBehindWeeks 9 = .ok (.aload_n 1, 1) := by decide +kernel
theorem dX8_ownersBehindWeeks_10 : decode cX8_ownersBehindWeeks 10 = .ok (.getfield 28, 3) := by decide +kernel
theorem dX8_ownersBehindWeeks_13 : decode cX8_ownersBehindWeeks 13 = .ok (.iconst 0, 1) := by decide +kernel
theorem dX8_ownersBehindWeeks_14 : decode cX8_ownersBehindWeeks 14 = .ok (.aload_n 0, 1) := by decide +kernel
theorem dX8_ownersBehindWeeks_15 : decode cX8_ownersBehindWeeks 15 = .ok (.getfield 9, 3) := by decide +kernel
theorem dX8_ownersBehindWeeks_18 : decode cX8_ownersBehindWeeks 18 = .ok (.iconst 0, 1) := by decide +kernel
theorem dX8_ownersBehindWeeks_19 : decode cX8_ownersBehindWeeks 19 = .ok (.bipush 7, 2) := by decide +kernel
theorem dX8_ownersBehindWeeks_21 : decode cX8_ownersBehindWeeks 21 = .ok (.invokestatic 72, 3) := by decide +kernel
theorem dX8_ownersBehindWeeks_24 : decode cX8_ownersBehindWeeks 24 = .ok (.iload_n 3, 1) := by decide +kernel
theorem dX8_ownersBehindWeeks_25 : decode cX8_ownersBehindWeeks 25 = .ok (.i2l, 1) := by decide +kernel
theorem dX8_ownersBehindWeeks_26 : decode cX8_ownersBehindWeeks 26 = .ok (.lstore 5, 2) := by decide +kernel
theorem dX8_ownersBehindWeeks_28 : decode cX8_ownersBehindWeeks 28 = .ok (.iconst 0, 1) := by decide +kernel
theorem dX8_ownersBehindWeeks_29 : decode cX8_ownersBehindWeeks 29 = .ok (.istore 7, 2) := by decide +kernel
theorem dX8_ownersBehindWeeks_31 : decode cX8_ownersBehindWeeks 31 = .ok (.iload 7, 2) := by decide +kernel
theorem dX8_ownersBehindWeeks_33 : decode cX8_ownersBehindWeeks 33 = .ok (.iload 4, 2) := by decide +kernel
theorem dX8_ownersBehindWeeks_35 : decode cX8_ownersBehindWeeks 35 = .ok (.if_icmp .ge 74, 3) := by decide +kernel
theorem dX8_ownersBehindWeeks_38 : decode cX8_ownersBehindWeeks 38 = .ok (.lload 5, 2) := by decide +kernel
theorem dX8_ownersBehindWeeks_40 : decode cX8_ownersBehindWeeks 40 = .ok (.ldc2_w 82, 3) := by decide +kernel
theorem dX8_ownersBehindWeeks_43 : decode cX8_ownersBehindWeeks 43 = .ok (.lmul, 1) := by decide +kernel
theorem dX8_ownersBehindWeeks_44 : decode cX8_ownersBehindWeeks 44 = .ok (.ldc2_w 84, 3) := by decide +kernel
theorem dX8_ownersBehindWeeks_47 : decode cX8_ownersBehindWeeks 47 = .ok (.ladd, 1) := by decide +kernel
theorem dX8_ownersBehindWeeks_48 : decode cX8_ownersBehindWeeks 48 = .ok (.ldc2_w 86, 3) := by decide +kernel
theorem dX8_ownersBehindWeeks_51 : decode cX8_ownersBehindWeeks 51 = .ok (.lrem, 1) := by decide +kernel
theorem dX8_ownersBehindWeeks_52 : decode cX8_ownersBehindWeeks 52 = .ok (.lstore 5, 2) := by decide +kernel
theorem dX8_ownersBehindWeeks_54 : decode cX8_ownersBehindWeeks 54 = .ok (.lload 5, 2) := by decide +kernel
theorem dX8_ownersBehindWeeks_56 : decode cX8_ownersBehindWeeks 56 = .ok (.ldc2_w 88, 3) := by decide +kernel
theorem dX8_ownersBehindWeeks_59 : decode cX8_ownersBehindWeeks 59 = .ok (.ldiv, 1) := by decide +kernel
theorem dX8_ownersBehindWeeks_60 : decode cX8_ownersBehindWeeks 60 = .ok (.aload_n 1, 1) := by decide +kernel
theorem dX8_ownersBehindWeeks_61 : decode cX8_ownersBehindWeeks 61 = .ok (.getfield 35, 3) := by decide +kernel
theorem dX8_ownersBehindWeeks_64 : decode cX8_ownersBehindWeeks 64 = .ok (.i2l, 1) := by decide +kernel
theorem dX8_ownersBehindWeeks_65 : decode cX8_ownersBehindWeeks 65 = .ok (.lrem, 1) := by decide +kernel
theorem dX8_ownersBehindWeeks_66 : decode cX8_ownersBehindWeeks 66 = .ok (.l2i, 1) := by decide +kernel
theorem dX8_ownersBehindWeeks_67 : decode cX8_ownersBehindWeeks 67 = .ok (.istore 8, 2) := by decide +kernel
theorem dX8_ownersBehindWeeks_69 : decode cX8_ownersBehindWeeks 69 = .ok (.lload 5, 2) := by decide +kernel
theorem dX8_ownersBehindWeeks_71 : decode cX8_ownersBehindWeeks 71 = .ok (.ldc2_w 90, 3) := by decide +kernel
theorem dX8_ownersBehindWeeks_74 : decode cX8_ownersBehindWeeks 74 = .ok (.ldiv, 1) := by decide +kernel
theorem dX8_ownersBehindWeeks_75 : decode cX8_ownersBehindWeeks 75 = .ok (.ldc2_w 92, 3) := by decide +kernel
theorem dX8_ownersBehindWeeks_78 : decode cX8_ownersBehindWeeks 78 = .ok (.lrem, 1) := by decide +kernel
theorem dX8_ownersBehindWeeks_79 : decode cX8_ownersBehindWeeks 79 = .ok (.l2i, 1) := by decide +kernel
theorem dX8_ownersBehindWeeks_80 : decode cX8_ownersBehindWeeks 80 = .ok (.istore 9, 2) := by decide +kernel
theorem dX8_ownersBehindWeeks_82 : decode cX8_ownersBehindWeeks 82 = .ok (.aload_n 0, 1) := by decide +kernel
theorem dX8_ownersBehindWeeks_83 : decode cX8_ownersBehindWeeks 83 = .ok (.getfield 9, 3) := by decide +kernel
theorem dX8_ownersBehindWeeks_86 : decode cX8_ownersBehindWeeks 86 = .ok (.iload 8, 2) := by decide +kernel
theorem dX8_ownersBehindWeeks_88 : decode cX8_ownersBehindWeeks 88 = .ok (.aload_n 2, 1) := by decide +kernel
theorem dX8_ownersBehindWeeks_89 : decode cX8_ownersBehindWeeks 89 = .ok (.aload_n 0, 1) := by decide +kernel
theorem dX8_ownersBehindWeeks_90 : decode cX8_ownersBehindWeeks 90 = .ok (.getfield 9, 3) := by decide +kernel
theorem dX8_ownersBehindWeeks_93 : decode cX8_ownersBehindWeeks 93 = .ok (.iload 8, 2) := by decide +kernel
theorem dX8_ownersBehindWeeks_95 : decode cX8_ownersBehindWeeks 95 = .ok (.iload 9, 2) := by decide +kernel
theorem dX8_ownersBehindWeeks_97 : decode cX8_ownersBehindWeeks 97 = .ok (.invokevirtual 42, 3) := by decide +kernel
theorem dX8_ownersBehindWeeks_100 : decode cX8_ownersBehindWeeks 100 = .ok (.invokestatic 78, 3) := by decide +kernel
theorem dX8_ownersBehindWeeks_103 : decode cX8_ownersBehindWeeks 103 = .ok (.iinc 7 1, 3) := by decide +kernel
theorem dX8_ownersBehindWeeks_106 : decode cX8_ownersBehindWeeks 106 = .ok (.goto (-75), 3) := by decide +kernel
theorem dX8_ownersBehindWeeks_109 : decode cX8_ownersBehindWeeks 109 = .ok (.aload_n 0, 1) := by decide +kernel
theorem dX8_ownersBehindWeeks_110 : decode cX8_ownersBehindWeeks 110 = .ok (.getfield 9, 3) := by decide +kernel
theorem dX8_ownersBehindWeeks_113 : decode cX8_ownersBehindWeeks 113 = .ok (.invokestatic 52, 3) := by decide +kernel
theorem dX8_ownersBehindWeeks_116 : decode cX8_ownersBehindWeeks 116 = .ok (.invokestatic 56, 3) := by decide +kernel
theorem dX8_ownersBehindWeeks_119 : decode cX8_ownersBehindWeeks 119 = .ok (.ireturn, 1) := by decide +kernel
theorem dX9_init_0 : decode cX9_init 0 = .ok (.aload_n 0, 1) := by decide +kernel
theorem dX9_init_1 : decode cX9_init 1 = .ok (.invokespecial 1, 3) := by decide +kernel
theorem dX9_init_4 : decode cX9_init 4 = .ok (.return_, 1) := by decide +kernel
theorem dX9_turns_0 : decode cX9_turns 0 = .ok (.iload 4, 2) := by decide +kernel
theorem dX9_turns_2 : decode cX9_turns 2 = .ok (.iconst 2, 1) := by decide +kernel
theorem dX9_turns_3 : decode cX9_turns 3 = .ok (.irem, 1) := by decide +kernel
theorem dX9_turns_4 : decode cX9_turns 4 = .ok (.ifCond .ne 19, 3) := by decide +kernel
theorem dX9_turns_7 : decode cX9_turns 7 = .ok (.aload_n 0, 1) := by decide +kernel
theorem dX9_turns_8 : decode cX9_turns 8 = .ok (.iload_n 1, 1) := by decide +kernel
theorem dX9_turns_9 : decode cX9_turns 9 = .ok (.iload_n 2, 1) := by decide +kernel
theorem dX9_turns_10 : decode cX9_turns 10 = .ok (.iload_n 3, 1) := by decide +kernel
theorem dX9_turns_11 : decode cX9_turns 11 = .ok (.iload 4, 2) := by decide +kernel
theorem dX9_turns_13 : decode cX9_turns 13 = .ok (.invokespecial 7, 3) := by decide +kernel
theorem dX9_turns_16 : decode cX9_turns 16 = .ok (.ifCond .eq 7, 3) := by decide +kernel
theorem dX9_turns_19 : decode cX9_turns 19 = .ok (.iconst 1, 1) := by decide +kernel
theorem dX9_turns_20 : decode cX9_turns 20 = .ok (.goto 4, 3) := by decide +kernel
theorem dX9_turns_23 : decode cX9_turns 23 = .ok (.iconst 0, 1) := by decide +kernel
theorem dX9_turns_24 : decode cX9_turns 24 = .ok (.ireturn, 1) := by decide +kernel
theorem dX10_init_0 : decode cX10_init 0 = .ok (.aload_n 0, 1) := by decide +kernel
theorem dX10_init_1 : decode cX10_init 1 = .ok (.invokespecial 3, 3) := by decide +kernel
theorem dX10_init_4 : decode cX10_init 4 = .ok (.aload_n 0, 1) := by decide +kernel
theorem dX10_init_5 : decode cX10_init 5 = .ok (.sipush 150, 3) := by decide +kernel
theorem dX10_init_8 : decode cX10_init 8 = .ok (.newarray .byte, 2) := by decide +kernel
theorem dX10_init_10 : decode cX10_init 10 = .ok (.putfield 9, 3) := by decide +kernel
theorem dX10_init_13 : decode cX10_init 13 = .ok (.return_, 1) := by decide +kernel
theorem dX10_append_0 : decode cX10_append 0 = .ok (.aload_n 0, 1) := by decide +kernel
theorem dX10_append_1 : decode cX10_append 1 = .ok (.getfield 15, 3) := by decide +kernel
theorem dX10_append_4 : decode cX10_append 4 = .ok (.sipush 150, 3) := by decide +kernel
theorem dX10_append_7 : decode cX10_append 7 = .ok (.if_icmp .ge 24, 3) := by decide +kernel
theorem dX10_append_10 : decode cX10_append 10 = .ok (.aload_n 0, 1) := by decide +kernel
theorem dX10_append_11 : decode cX10_append 11 = .ok (.getfield 9, 3) := by decide +kernel
theorem dX10_append_14 : decode cX10_append 14 = .ok (.aload_n 0, 1) := by decide +kernel
theorem dX10_append_15 : decode cX10_append 15 = .ok (.getfield 15, 3) := by decide +kernel
theorem dX10_append_18 : decode cX10_append 18 = .ok (.iload_n 1, 1) := by decide +kernel
theorem dX10_append_19 : decode cX10_append 19 = .ok (.i2b, 1) := by decide +kernel
theorem dX10_append_20 : decode cX10_append 20 = .ok (.bastore, 1) := by decide +kernel
theorem dX10_append_21 : decode cX10_append 21 = .ok (.aload_n 0, 1) := by decide +kernel
theorem dX10_append_22 : decode cX10_append 22 = .ok (.dup, 1) := by decide +kernel
theorem dX10_append_23 : decode cX10_append 23 = .ok (.getfield 15, 3) := by decide +kernel
theorem dX10_append_26 : decode cX10_append 26 = .ok (.iconst 1, 1) := by decide +kernel
theorem dX10_append_27 : decode cX10_append 27 = .ok (.iadd, 1) := by decide +kernel
theorem dX10_append_28 : decode cX10_append 28 = .ok (.putfield 15, 3) := by decide +kernel
theorem dX10_append_31 : decode cX10_append 31 = .ok (.return_, 1) := by decide +kernel
theorem dX10_tell_0 : decode cX10_tell 0 = .ok (.aload_n 0, 1) := by decide +kernel
theorem dX10_tell_1 : decode cX10_tell 1 = .ok (.iconst 0, 1) := by decide +kernel
theorem dX10_tell_2 : decode cX10_tell 2 = .ok (.putfield 19, 3) := by decide +kernel
theorem dX10_tell_5 : decode cX10_tell 5 = .ok (.aload_n 0, 1) := by decide +kernel
theorem dX10_tell_6 : decode cX10_tell 6 = .ok (.invokevirtual 22, 3) := by decide +kernel
theorem dX10_tell_9 : decode cX10_tell 9 = .ok (.aload_n 0, 1) := by decide +kernel
theorem dX10_tell_10 : decode cX10_tell 10 = .ok (.ldc 25, 2) := by decide +kernel
theorem dX10_tell_12 : decode cX10_tell 12 = .ok (.invokevirtual 27, 3) := by decide +kernel
theorem dX10_tell_15 : decode cX10_tell 15 = .ok (.ifCond .eq 12, 3) := by decide +kernel
theorem dX10_tell_18 : decode cX10_tell 18 = .ok (.aload_n 0, 1) := by decide +kernel
theorem dX10_tell_19 : decode cX10_tell 19 = .ok (.bipush 100, 2) := by decide +kernel
theorem dX10_tell_21 : decode cX10_tell 21 = .ok (.invokevirtual 31, 3) := by decide +kernel
theorem dX10_tell_24 : decode cX10_tell 24 = .ok (.ifCond .ne 5, 3) := by decide +kernel
theorem dX10_tell_27 : decode cX10_tell 27 = .ok (.iconst (-1), 1) := by decide +kernel
theorem dX10_tell_28 : decode cX10_tell 28 = .ok (.ireturn, 1) := by decide +kernel
theorem dX10_tell_29 : decode cX10_tell 29 = .ok (.aload_n 1, 1) := by decide +kernel
theorem dX10_tell_30 : decode cX10_tell 30 = .ok (.aload_n 0, 1) := by decide +kernel
theorem dX10_tell_31 : decode cX10_tell 31 = .ok (.getfield 35, 3) := by decide +kernel
theorem dX10_tell_34 : decode cX10_tell 34 = .ok (.invokevirtual 38, 3) := by decide +kernel
theorem dX10_tell_37 : decode cX10_tell 37 = .ok (.iconst 1, 1) := by decide +kernel
theorem dX10_tell_38 : decode cX10_tell 38 = .ok (.istore_n 2, 1) := by decide +kernel
theorem dX10_tell_39 : decode cX10_tell 39 = .ok (.iload_n 2, 1) := by decide +kernel
theorem dX10_tell_40 : decode cX10_tell 40 = .ok (.sipush 150, 3) := by decide +kernel
theorem dX10_tell_43 : decode cX10_tell 43 = .ok (.if_icmp .gt 46, 3) := by decide +kernel
theorem dX10_tell_46 : decode cX10_tell 46 = .ok (.aload_n 0, 1) := by decide +kernel
theorem dX10_tell_47 : decode cX10_tell 47 = .ok (.invokevirtual 22, 3) := by decide +kernel
theorem dX10_tell_50 : decode cX10_tell 50 = .ok (.aload_n 0, 1) := by decide +kernel
theorem dX10_tell_51 : decode cX10_tell 51 = .ok (.getfield 44, 3) := by decide +kernel
theorem dX10_tell_54 : decode cX10_tell 54 = .ok (.iconst 3, 1) := by decide +kernel
theorem dX10_tell_55 : decode cX10_tell 55 = .ok (.if_icmp .eq 5, 3) := by decide +kernel
theorem dX10_tell_58 : decode cX10_tell 58 = .ok (.iconst (-1), 1) := by decide +kernel
theorem dX10_tell_59 : decode cX10_tell 59 = .ok (.ireturn, 1) := by decide +kernel
theorem dX10_tell_60 : decode cX10_tell 60 = .ok (.aload_n 0, 1) := by decide +kernel
theorem dX10_tell_61 : decode cX10_tell 61 = .ok (.invokevirtual 22, 3) := by decide +kernel
theorem dX10_tell_64 : decode cX10_tell 64 = .ok (.aload_n 0, 1) := by decide +kernel
theorem dX10_tell_65 : decode cX10_tell 65 = .ok (.getfield 44, 3) := by decide +kernel
theorem dX10_tell_68 : decode cX10_tell 68 = .ok (.ifCond .ne 5, 3) := by decide +kernel
theorem dX10_tell_71 : decode cX10_tell 71 = .ok (.iload_n 2, 1) := by decide +kernel
theorem dX10_tell_72 : decode cX10_tell 72 = .ok (.ireturn, 1) := by decide +kernel
theorem dX10_tell_73 : decode cX10_tell 73 = .ok (.aload_n 0, 1) := by decide +kernel
theorem dX10_tell_74 : decode cX10_tell 74 = .ok (.aload_n 1, 1) := by decide +kernel
theorem dX10_tell_75 : decode cX10_tell 75 = .ok (.invokevirtual 47, 3) := by decide +kernel
theorem dX10_tell_78 : decode cX10_tell 78 = .ok (.ifCond .ne 5, 3) := by decide +kernel
theorem dX10_tell_81 : decode cX10_tell 81 = .ok (.iconst (-1), 1) := by decide +kernel
theorem dX10_tell_82 : decode cX10_tell 82 = .ok (.ireturn, 1) := by decide +kernel
theorem dX10_tell_83 : decode cX10_tell 83 = .ok (.iinc 2 1, 3) := by decide +kernel
theorem dX10_tell_86 : decode cX10_tell 86 = .ok (.goto (-47), 3) := by decide +kernel
theorem dX10_tell_89 : decode cX10_tell 89 = .ok (.iconst (-1), 1) := by decide +kernel
theorem dX10_tell_90 : decode cX10_tell 90 = .ok (.ireturn, 1) := by decide +kernel
theorem dX10_isItem_0 : decode cX10_isItem 0 = .ok (.aload_n 0, 1) := by decide +kernel
theorem dX10_isItem_1 : decode cX10_isItem 1 = .ok (.ldc 51, 2) := by decide +kernel
theorem dX10_isItem_3 : decode cX10_isItem 3 = .ok (.invokevirtual 27, 3) := by decide +kernel
theorem dX10_isItem_6 : decode cX10_isItem 6 = .ok (.ifCond .eq 26, 3) := by decide +kernel
theorem dX10_isItem_9 : decode cX10_isItem 9 = .ok (.aload_n 1, 1) := by decide +kernel
theorem dX10_isItem_10 : decode cX10_isItem 10 = .ok (.getfield 53, 3) := by decide +kernel
theorem dX10_isItem_13 : decode cX10_isItem 13 = .ok (.bipush 7, 2) := by decide +kernel
theorem dX10_isItem_15 : decode cX10_isItem 15 = .ok (.if_icmp .ge 15, 3) := by decide +kernel
theorem dX10_isItem_18 : decode cX10_isItem 18 = .ok (.aload_n 0, 1) := by decide +kernel
theorem dX10_isItem_19 : decode cX10_isItem 19 = .ok (.aload_n 1, 1) := by decide +kernel
theorem dX10_isItem_20 : decode cX10_isItem 20 = .ok (.invokevirtual 56, 3) := by decide +kernel
theorem dX10_isItem_23 : decode cX10_isItem 23 = .ok (.ifCond .eq 7, 3) := by decide +kernel
theorem dX10_isItem_26 : decode cX10_isItem 26 = .ok (.iconst 1, 1) := by decide +kernel
theorem dX10_isItem_27 : decode cX10_isItem 27 = .ok (.goto 4, 3) := by decide +kernel
theorem dX10_isItem_30 : decode cX10_isItem 30 = .ok (.iconst 0, 1) := by decide +kernel
theorem dX10_isItem_31 : decode cX10_isItem 31 = .ok (.ireturn, 1) := by decide +kernel
theorem dX10_isItem_32 : decode cX10_isItem 32 = .ok (.aload_n 0, 1) := by decide +kernel
theorem dX10_isItem_33 : decode cX10_isItem 33 = .ok (.ldc 59, 2) := by decide +kernel
theorem dX10_isItem_35 : decode cX10_isItem 35 = .ok (.invokevirtual 27, 3) := by decide +kernel
theorem dX10_isItem_38 : decode cX10_isItem 38 = .ok (.ifCond .eq 9, 3) := by decide +kernel
theorem dX10_isItem_41 : decode cX10_isItem 41 = .ok (.aload_n 0, 1) := by decide +kernel
theorem dX10_isItem_42 : decode cX10_isItem 42 = .ok (.aload_n 1, 1) := by decide +kernel
theorem dX10_isItem_43 : decode cX10_isItem 43 = .ok (.invokevirtual 61, 3) := by decide +kernel
theorem dX10_isItem_46 : decode cX10_isItem 46 = .ok (.ireturn, 1) := by decide +kernel
theorem dX10_isItem_47 : decode cX10_isItem 47 = .ok (.aload_n 0, 1) := by decide +kernel
theorem dX10_isItem_48 : decode cX10_isItem 48 = .ok (.ldc 64, 2) := by decide +kernel
theorem dX10_isItem_50 : decode cX10_isItem 50 = .ok (.invokevirtual 27, 3) := by decide +kernel
theorem dX10_isItem_53 : decode cX10_isItem 53 = .ok (.ifCond .eq 15, 3) := by decide +kernel
theorem dX10_isItem_56 : decode cX10_isItem 56 = .ok (.aload_n 0, 1) := by decide +kernel
theorem dX10_isItem_57 : decode cX10_isItem 57 = .ok (.aload_n 1, 1) := by decide +kernel
theorem dX10_isItem_58 : decode cX10_isItem 58 = .ok (.invokevirtual 66, 3) := by decide +kernel
theorem dX10_isItem_61 : decode cX10_isItem 61 = .ok (.ifCond .eq 7, 3) := by decide +kernel
theorem dX10_isItem_64 : decode cX10_isItem 64 = .ok (.iconst 1, 1) := by decide +kernel
theorem dX10_isItem_65 : decode cX10_isItem 65 = .ok (.goto 4, 3) := by decide +kernel
theorem dX10_isItem_68 : decode cX10_isItem 68 = .ok (.iconst 0, 1) := by decide +kernel
theorem dX10_isItem_69 : decode cX10_isItem 69 = .ok (.ireturn, 1) := by decide +kernel
theorem dX10_isOne_0 : decode cX10_isOne 0 = .ok (.aload_n 0, 1) := by decide +kernel
theorem dX10_isOne_1 : decode cX10_isOne 1 = .ok (.bipush 6, 2) := by decide +kernel
theorem dX10_isOne_3 : decode cX10_isOne 3 = .ok (.invokevirtual 31, 3) := by decide +kernel
theorem dX10_isOne_6 : decode cX10_isOne 6 = .ok (.ifCond .ne 5, 3) := by decide +kernel
theorem dX10_isOne_9 : decode cX10_isOne 9 = .ok (.iconst 0, 1) := by decide +kernel
theorem dX10_isOne_10 : decode cX10_isOne 10 = .ok (.ireturn, 1) := by decide +kernel
theorem dX10_isOne_11 : decode cX10_isOne 11 = .ok (.aload_n 0, 1) := by decide +kernel
theorem dX10_isOne_12 : decode cX10_isOne 12 = .ok (.getfield 35, 3) := by decide +kernel
theorem dX10_isOne_15 : decode cX10_isOne 15 = .ok (.istore_n 2, 1) := by decide +kernel
theorem dX10_isOne_16 : decode cX10_isOne 16 = .ok (.aload_n 0, 1) := by decide +kernel
theorem dX10_isOne_17 : decode cX10_isOne 17 = .ok (.bipush 10, 2) := by decide +kernel
theorem dX10_isOne_19 : decode cX10_isOne 19 = .ok (.invokevirtual 31, 3) := by decide +kernel
theorem dX10_isOne_22 : decode cX10_isOne 22 = .ok (.ifCond .ne 5, 3) := by decide +kernel
theorem dX10_isOne_25 : decode cX10_isOne 25 = .ok (.iconst 0, 1) := by decide +kernel
theorem dX10_isOne_26 : decode cX10_isOne 26 = .ok (.ireturn, 1) := by decide +kernel
theorem dX10_isOne_27 : decode cX10_isOne 27 = .ok (.aload_n 1, 1) := by decide +kernel
theorem dX10_isOne_28 : decode cX10_isOne 28 = .ok (.iload_n 2, 1) := by decide +kernel
theorem dX10_isOne_29 : decode cX10_isOne 29 = .ok (.aload_n 0, 1) := by decide +kernel
theorem dX10_isOne_30 : decode cX10_isOne 30 = .ok (.getfield 35, 3) := by decide +kernel
theorem dX10_isOne_33 : decode cX10_isOne 33 = .ok (.invokevirtual 69, 3) := by decide +kernel
theorem dX10_isOne_36 : decode cX10_isOne 36 = .ok (.iconst 1, 1) := by decide +kernel
theorem dX10_isOne_37 : decode cX10_isOne 37 = .ok (.ireturn, 1) := by decide +kernel
theorem dX10_isBears_0 : decode cX10_isBears 0 = .ok (.aload_n 0, 1) := by decide +kernel
theorem dX10_isBears_1 : decode cX10_isBears 1 = .ok (.aload_n 1, 1) := by decide +kernel
theorem dX10_isBears_2 : decode cX10_isBears 2 = .ok (.getfield 53, 3) := by decide +kernel
theorem dX10_isBears_5 : decode cX10_isBears 5 = .ok (.invokevirtual 31, 3) := by decide +kernel
theorem dX10_isBears_8 : decode cX10_isBears 8 = .ok (.ifCond .ne 5, 3) := by decide +kernel
theorem dX10_isBears_11 : decode cX10_isBears 11 = .ok (.iconst 0, 1) := by decide +kernel
theorem dX10_isBears_12 : decode cX10_isBears 12 = .ok (.ireturn, 1) := by decide +kernel
theorem dX10_isBears_13 : decode cX10_isBears 13 = .ok (.aload_n 0, 1) := by decide +kernel
theorem dX10_isBears_14 : decode cX10_isBears 14 = .ok (.getfield 35, 3) := by decide +kernel
theorem dX10_isBears_17 : decode cX10_isBears 17 = .ok (.istore_n 2, 1) := by decide +kernel
theorem dX10_isBears_18 : decode cX10_isBears 18 = .ok (.aload_n 0, 1) := by decide +kernel
theorem dX10_isBears_19 : decode cX10_isBears 19 = .ok (.aload_n 1, 1) := by decide +kernel
theorem dX10_isBears_20 : decode cX10_isBears 20 = .ok (.getfield 53, 3) := by decide +kernel
theorem dX10_isBears_23 : decode cX10_isBears 23 = .ok (.invokevirtual 31, 3) := by decide +kernel
theorem dX10_isBears_26 : decode cX10_isBears 26 = .ok (.ifCond .ne 5, 3) := by decide +kernel
theorem dX10_isBears_29 : decode cX10_isBears 29 = .ok (.iconst 0, 1) := by decide +kernel
theorem dX10_isBears_30 : decode cX10_isBears 30 = .ok (.ireturn, 1) := by decide +kernel
theorem dX10_isBears_31 : decode cX10_isBears 31 = .ok (.aload_n 1, 1) := by decide +kernel
theorem dX10_isBears_32 : decode cX10_isBears 32 = .ok (.iload_n 2, 1) := by decide +kernel
theorem dX10_isBears_33 : decode cX10_isBears 33 = .ok (.aload_n 0, 1) := by decide +kernel
theorem dX10_isBears_34 : decode cX10_isBears 34 = .ok (.getfield 35, 3) := by decide +kernel
theorem dX10_isBears_37 : decode cX10_isBears 37 = .ok (.invokevirtual 73, 3) := by decide +kernel
theorem dX10_isBears_40 : decode cX10_isBears 40 = .ok (.iconst 1, 1) := by decide +kernel
theorem dX10_isBears_41 : decode cX10_isBears 41 = .ok (.ireturn, 1) := by decide +kernel
theorem dX10_isNone_0 : decode cX10_isNone 0 = .ok (.aload_n 0, 1) := by decide +kernel
theorem dX10_isNone_1 : decode cX10_isNone 1 = .ok (.aload_n 1, 1) := by decide +kernel
theorem dX10_isNone_2 : decode cX10_isNone 2 = .ok (.getfield 53, 3) := by decide +kernel
theorem dX10_isNone_5 : decode cX10_isNone 5 = .ok (.invokevirtual 31, 3) := by decide +kernel
theorem dX10_isNone_8 : decode cX10_isNone 8 = .ok (.ifCond .ne 5, 3) := by decide +kernel
theorem dX10_isNone_11 : decode cX10_isNone 11 = .ok (.iconst 0, 1) := by decide +kernel
theorem dX10_isNone_12 : decode cX10_isNone 12 = .ok (.ireturn, 1) := by decide +kernel
theorem dX10_isNone_13 : decode cX10_isNone 13 = .ok (.aload_n 1, 1) := by decide +kernel
theorem dX10_isNone_14 : decode cX10_isNone 14 = .ok (.aload_n 0, 1) := by decide +kernel
theorem dX10_isNone_15 : decode cX10_isNone 15 = .ok (.getfield 35, 3) := by decide +kernel
theorem dX10_isNone_18 : decode cX10_isNone 18 = .ok (.iconst (-1), 1) := by decide +kernel
theorem dX10_isNone_19 : decode cX10_isNone 19 = .ok (.invokevirtual 73, 3) := by decide +kernel
theorem dX10_isNone_22 : decode cX10_isNone 22 = .ok (.iconst 1, 1) := by decide +kernel
theorem dX10_isNone_23 : decode cX10_isNone 23 = .ok (.ireturn, 1) := by decide +kernel
theorem dX10_isNumberNext_0 : decode cX10_isNumberNext 0 = .ok (.aload_n 0, 1) := by decide +kernel
theorem dX10_isNumberNext_1 : decode cX10_isNumberNext 1 = .ok (.invokevirtual 22, 3) := by decide +kernel
theorem dX10_isNumberNext_4 : decode cX10_isNumberNext 4 = .ok (.aload_n 0, 1) := by decide +kernel
theorem dX10_isNumberNext_5 : decode cX10_isNumberNext 5 = .ok (.getfield 44, 3) := by decide +kernel
theorem dX10_isNumberNext_8 : decode cX10_isNumberNext 8 = .ok (.iconst 2, 1) := by decide +kernel
theorem dX10_isNumberNext_9 : decode cX10_isNumberNext 9 = .ok (.if_icmp .ne 16, 3) := by decide +kernel
theorem dX10_isNumberNext_12 : decode cX10_isNumberNext 12 = .ok (.aload_n 0, 1) := by decide +kernel
theorem dX10_isNumberNext_13 : decode cX10_isNumberNext 13 = .ok (.getfield 19, 3) := by decide +kernel
theorem dX10_isNumberNext_16 : decode cX10_isNumberNext 16 = .ok (.aload_n 0, 1) := by decide +kernel
theorem dX10_isNumberNext_17 : decode cX10_isNumberNext 17 = .ok (.getfield 76, 3) := by decide +kernel
theorem dX10_isNumberNext_20 : decode cX10_isNumberNext 20 = .ok (.isub, 1) := by decide +kernel
theorem dX10_isNumberNext_21 : decode cX10_isNumberNext 21 = .ok (.iconst 2, 1) := by decide +kernel
theorem dX10_isNumberNext_22 : decode cX10_isNumberNext 22 = .ok (.if_icmp .le 5, 3) := by decide +kernel
theorem dX10_isNumberNext_25 : decode cX10_isNumberNext 25 = .ok (.iconst 0, 1) := by decide +kernel
theorem dX10_isNumberNext_26 : decode cX10_isNumberNext 26 = .ok (.ireturn, 1) := by decide +kernel
theorem dX10_isNumberNext_27 : decode cX10_isNumberNext 27 = .ok (.aload_n 0, 1) := by decide +kernel
theorem dX10_isNumberNext_28 : decode cX10_isNumberNext 28 = .ok (.iconst 0, 1) := by decide +kernel
theorem dX10_isNumberNext_29 : decode cX10_isNumberNext 29 = .ok (.putfield 35, 3) := by decide +kernel
theorem dX10_isNumberNext_32 : decode cX10_isNumberNext 32 = .ok (.aload_n 0, 1) := by decide +kernel
theorem dX10_isNumberNext_33 : decode cX10_isNumberNext 33 = .ok (.getfield 76, 3) := by decide +kernel
theorem dX10_isNumberNext_36 : decode cX10_isNumberNext 36 = .ok (.istore_n 2, 1) := by decide +kernel
theorem dX10_isNumberNext_37 : decode cX10_isNumberNext 37 = .ok (.iload_n 2, 1) := by decide +kernel
theorem dX10_isNumberNext_38 : decode cX10_isNumberNext 38 = .ok (.aload_n 0, 1) := by decide +kernel
theorem dX10_isNumberNext_39 : decode cX10_isNumberNext 39 = .ok (.getfield 19, 3) := by decide +kernel
theorem dX10_isNumberNext_42 : decode cX10_isNumberNext 42 = .ok (.if_icmp .ge 30, 3) := by decide +kernel
theorem dX10_isNumberNext_45 : decode cX10_isNumberNext 45 = .ok (.aload_n 0, 1) := by decide +kernel
theorem dX10_isNumberNext_46 : decode cX10_isNumberNext 46 = .ok (.bipush 10, 2) := by decide +kernel
theorem dX10_isNumberNext_48 : decode cX10_isNumberNext 48 = .ok (.aload_n 0, 1) := by decide +kernel
theorem dX10_isNumberNext_49 : decode cX10_isNumberNext 49 = .ok (.getfield 35, 3) := by decide +kernel
theorem dX10_isNumberNext_52 : decode cX10_isNumberNext 52 = .ok (.imul, 1) := by decide +kernel
theorem dX10_isNumberNext_53 : decode cX10_isNumberNext 53 = .ok (.aload_n 0, 1) := by decide +kernel
theorem dX10_isNumberNext_54 : decode cX10_isNumberNext 54 = .ok (.getfield 9, 3) := by decide +kernel
theorem dX10_isNumberNext_57 : decode cX10_isNumberNext 57 = .ok (.iload_n 2, 1) := by decide +kernel
theorem dX10_isNumberNext_58 : decode cX10_isNumberNext 58 = .ok (.baload, 1) := by decide +kernel
theorem dX10_isNumberNext_59 : decode cX10_isNumberNext 59 = .ok (.bipush 48, 2) := by decide +kernel
theorem dX10_isNumberNext_61 : decode cX10_isNumberNext 61 = .ok (.isub, 1) := by decide +kernel
theorem dX10_isNumberNext_62 : decode cX10_isNumberNext 62 = .ok (.iadd, 1) := by decide +kernel
theorem dX10_isNumberNext_63 : decode cX10_isNumberNext 63 = .ok (.putfield 35, 3) := by decide +kernel
theorem dX10_isNumberNext_66 : decode cX10_isNumberNext 66 = .ok (.iinc 2 1, 3) := by decide +kernel
theorem dX10_isNumberNext_69 : decode cX10_isNumberNext 69 = .ok (.goto (-32), 3) := by decide +kernel
theorem dX10_isNumberNext_72 : decode cX10_isNumberNext 72 = .ok (.aload_n 0, 1) := by decide +kernel
theorem dX10_isNumberNext_73 : decode cX10_isNumberNext 73 = .ok (.getfield 35, 3) := by decide +kernel
theorem dX10_isNumberNext_76 : decode cX10_isNumberNext 76 = .ok (.iload_n 1, 1) := by decide +kernel
theorem dX10_isNumberNext_77 : decode cX10_isNumberNext 77 = .ok (.if_icmp .ge 7, 3) := by decide +kernel
theorem dX10_isNumberNext_80 : decode cX10_isNumberNext 80 = .ok (.iconst 1, 1) := by decide +kernel
theorem dX10_isNumberNext_81 : decode cX10_isNumberNext 81 = .ok (.goto 4, 3) := by decide +kernel
theorem dX10_isNumberNext_84 : decode cX10_isNumberNext 84 = .ok (.iconst 0, 1) := by decide +kernel
theorem dX10_isNumberNext_85 : decode cX10_isNumberNext 85 = .ok (.ireturn, 1) := by decide +kernel
theorem dX10_isWord_0 : decode cX10_isWord 0 = .ok (.aload_n 0, 1) := by decide +kernel
theorem dX10_isWord_1 : decode cX10_isWord 1 = .ok (.getfield 44, 3) := by decide +kernel
theorem dX10_isWord_4 : decode cX10_isWord 4 = .ok (.iconst 1, 1) := by decide +kernel
theorem dX10_isWord_5 : decode cX10_isWord 5 = .ok (.if_icmp .ne 19, 3) := by decide +kernel
theorem dX10_isWord_8 : decode cX10_isWord 8 = .ok (.aload_n 0, 1) := by decide +kernel
theorem dX10_isWord_9 : decode cX10_isWord 9 = .ok (.getfield 19, 3) := by decide +kernel
theorem dX10_isWord_12 : decode cX10_isWord 12 = .ok (.aload_n 0, 1) := by decide +kernel
theorem dX10_isWord_13 : decode cX10_isWord 13 = .ok (.getfield 76, 3) := by decide +kernel
theorem dX10_isWord_16 : decode cX10_isWord 16 = .ok (.isub, 1) := by decide +kernel
theorem dX10_isWord_17 : decode cX10_isWord 17 = .ok (.aload_n 1, 1) := by decide +kernel
theorem dX10_isWord_18 : decode cX10_isWord 18 = .ok (.invokevirtual 79, 3) := by decide +kernel
theorem dX10_isWord_21 : decode cX10_isWord 21 = .ok (.if_icmp .eq 5, 3) := by decide +kernel
theorem dX10_isWord_24 : decode cX10_isWord 24 = .ok (.iconst 0, 1) := by decide +kernel
theorem dX10_isWord_25 : decode cX10_isWord 25 = .ok (.ireturn, 1) := by decide +kernel
theorem dX10_isWord_26 : decode cX10_isWord 26 = .ok (.iconst 0, 1) := by decide +kernel
theorem dX10_isWord_27 : decode cX10_isWord 27 = .ok (.istore_n 2, 1) := by decide +kernel
theorem dX10_isWord_28 : decode cX10_isWord 28 = .ok (.iload_n 2, 1) := by decide +kernel
theorem dX10_isWord_29 : decode cX10_isWord 29 = .ok (.aload_n 1, 1) := by decide +kernel
theorem dX10_isWord_30 : decode cX10_isWord 30 = .ok (.invokevirtual 79, 3) := by decide +kernel
theorem dX10_isWord_33 : decode cX10_isWord 33 = .ok (.if_icmp .ge 30, 3) := by decide +kernel
theorem dX10_isWord_36 : decode cX10_isWord 36 = .ok (.aload_n 0, 1) := by decide +kernel
theorem dX10_isWord_37 : decode cX10_isWord 37 = .ok (.getfield 9, 3) := by decide +kernel
theorem dX10_isWord_40 : decode cX10_isWord 40 = .ok (.aload_n 0, 1) := by decide +kernel
theorem dX10_isWord_41 : decode cX10_isWord 41 = .ok (.getfield 76, 3) := by decide +kernel
theorem dX10_isWord_44 : decode cX10_isWord 44 = .ok (.iload_n 2, 1) := by decide +kernel
theorem dX10_isWord_45 : decode cX10_isWord 45 = .ok (.iadd, 1) := by decide +kernel
theorem dX10_isWord_46 : decode cX10_isWord 46 = .ok (.baload, 1) := by decide +kernel
theorem dX10_isWord_47 : decode cX10_isWord 47 = .ok (.aload_n 1, 1) := by decide +kernel
theorem dX10_isWord_48 : decode cX10_isWord 48 = .ok (.iload_n 2, 1) := by decide +kernel
theorem dX10_isWord_49 : decode cX10_isWord 49 = .ok (.invokevirtual 84, 3) := by decide +kernel
theorem dX10_isWord_52 : decode cX10_isWord 52 = .ok (.if_icmp .eq 5, 3) := by decide +kernel
theorem dX10_isWord_55 : decode cX10_isWord 55 = .ok (.iconst 0, 1) := by decide +kernel
theorem dX10_isWord_56 : decode cX10_isWord 56 = .ok (.ireturn, 1) := by decide +kernel
theorem dX10_isWord_57 : decode cX10_isWord 57 = .ok (.iinc 2 1, 3) := by decide +kernel
theorem dX10_isWord_60 : decode cX10_isWord 60 = .ok (.goto (-32), 3) := by decide +kernel
theorem dX10_isWord_63 : decode cX10_isWord 63 = .ok (.iconst 1, 1) := by decide +kernel
theorem dX10_isWord_64 : decode cX10_isWord 64 = .ok (.ireturn, 1) := by decide +kernel
theorem dX10_advance_0 : decode cX10_advance 0 = .ok (.aload_n 0, 1) := by decide +kernel
theorem dX10_advance_1 : decode cX10_advance 1 = .ok (.aload_n 0, 1) := by decide +kernel
theorem dX10_advance_2 : decode cX10_advance 2 = .ok (.getfield 19, 3) := by decide +kernel
theorem dX10_advance_5 : decode cX10_advance 5 = .ok (.putfield 76, 3) := by decide +kernel
theorem dX10_advance_8 : decode cX10_advance 8 = .ok (.aload_n 0, 1) := by decide +kernel
theorem dX10_advance_9 : decode cX10_advance 9 = .ok (.getfield 76, 3) := by decide +kernel
theorem dX10_advance_12 : decode cX10_advance 12 = .ok (.aload_n 0, 1) := by decide +kernel
theorem dX10_advance_13 : decode cX10_advance 13 = .ok (.getfield 15, 3) := by decide +kernel
theorem dX10_advance_16 : decode cX10_advance 16 = .ok (.if_icmp .ge 30, 3) := by decide +kernel
theorem dX10_advance_19 : decode cX10_advance 19 = .ok (.aload_n 0, 1) := by decide +kernel
theorem dX10_advance_20 : decode cX10_advance 20 = .ok (.getfield 9, 3) := by decide +kernel
theorem dX10_advance_23 : decode cX10_advance 23 = .ok (.aload_n 0, 1) := by decide +kernel
theorem dX10_advance_24 : decode cX10_advance 24 = .ok (.getfield 76, 3) := by decide +kernel
theorem dX10_advance_27 : decode cX10_advance 27 = .ok (.baload, 1) := by decide +kernel
theorem dX10_advance_28 : decode cX10_advance 28 = .ok (.bipush 32, 2) := by decide +kernel
theorem dX10_advance_30 : decode cX10_advance 30 = .ok (.if_icmp .ne 16, 3) := by decide +kernel
theorem dX10_advance_33 : decode cX10_advance 33 = .ok (.aload_n 0, 1) := by decide +kernel
theorem dX10_advance_34 : decode cX10_advance 34 = .ok (.dup, 1) := by decide +kernel
theorem dX10_advance_35 : decode cX10_advance 35 = .ok (.getfield 76, 3) := by decide +kernel
theorem dX10_advance_38 : decode cX10_advance 38 = .ok (.iconst 1, 1) := by decide +kernel
theorem dX10_advance_39 : decode cX10_advance 39 = .ok (.iadd, 1) := by decide +kernel
theorem dX10_advance_40 : decode cX10_advance 40 = .ok (.putfield 76, 3) := by decide +kernel
theorem dX10_advance_43 : decode cX10_advance 43 = .ok (.goto (-35), 3) := by decide +kernel
theorem dX10_advance_46 : decode cX10_advance 46 = .ok (.aload_n 0, 1) := by decide +kernel
theorem dX10_advance_47 : decode cX10_advance 47 = .ok (.aload_n 0, 1) := by decide +kernel
theorem dX10_advance_48 : decode cX10_advance 48 = .ok (.getfield 76, 3) := by decide +kernel
theorem dX10_advance_51 : decode cX10_advance 51 = .ok (.putfield 19, 3) := by decide +kernel
theorem dX10_advance_54 : decode cX10_advance 54 = .ok (.aload_n 0, 1) := by decide +kernel
theorem dX10_advance_55 : decode cX10_advance 55 = .ok (.iconst 0, 1) := by decide +kernel
theorem dX10_advance_56 : decode cX10_advance 56 = .ok (.putfield 44, 3) := by decide +kernel
theorem dX10_advance_59 : decode cX10_advance 59 = .ok (.aload_n 0, 1) := by decide +kernel
theorem dX10_advance_60 : decode cX10_advance 60 = .ok (.getfield 76, 3) := by decide +kernel
theorem dX10_advance_63 : decode cX10_advance 63 = .ok (.aload_n 0, 1) := by decide +kernel
theorem dX10_advance_64 : decode cX10_advance 64 = .ok (.getfield 15, 3) := by decide +kernel
theorem dX10_advance_67 : decode cX10_advance 67 = .ok (.if_icmp .ge 29, 3) := by decide +kernel
theorem dX10_advance_70 : decode cX10_advance 70 = .ok (.aload_n 0, 1) := by decide +kernel
theorem dX10_advance_71 : decode cX10_advance 71 = .ok (.aload_n 0, 1) := by decide +kernel
theorem dX10_advance_72 : decode cX10_advance 72 = .ok (.getfield 9, 3) := by decide +kernel
theorem dX10_advance_75 : decode cX10_advance 75 = .ok (.aload_n 0, 1) := by decide +kernel
theorem dX10_advance_76 : decode cX10_advance 76 = .ok (.getfield 76, 3) := by decide +kernel
theorem dX10_advance_79 : decode cX10_advance 79 = .ok (.baload, 1) := by decide +kernel
theorem dX10_advance_80 : decode cX10_advance 80 = .ok (.invokestatic 88, 3) := by decide +kernel
theorem dX10_advance_83 : decode cX10_advance 83 = .ok (.putfield 44, 3) := by decide +kernel
theorem dX10_advance_86 : decode cX10_advance 86 = .ok (.aload_n 0, 1) := by decide +kernel
theorem dX10_advance_87 : decode cX10_advance 87 = .ok (.dup, 1) := by decide +kernel
theorem dX10_advance_88 : decode cX10_advance 88 = .ok (.getfield 19, 3) := by decide +kernel
theorem dX10_advance_91 : decode cX10_advance 91 = .ok (.iconst 1, 1) := by decide +kernel
theorem dX10_advance_92 : decode cX10_advance 92 = .ok (.iadd, 1) := by decide +kernel
theorem dX10_advance_93 : decode cX10_advance 93 = .ok (.putfield 19, 3) := by decide +kernel
theorem dX10_advance_96 : decode cX10_advance 96 = .ok (.aload_n 0, 1) := by decide +kernel
theorem dX10_advance_97 : decode cX10_advance 97 = .ok (.getfield 44, 3) := by decide +kernel
theorem dX10_advance_100 : decode cX10_advance 100 = .ok (.iconst 1, 1) := by decide +kernel
theorem dX10_advance_101 : decode cX10_advance 101 = .ok (.if_icmp .eq 11, 3) := by decide +kernel
theorem dX10_advance_104 : decode cX10_advance 104 = .ok (.aload_n 0, 1) := by decide +kernel
theorem dX10_advance_105 : decode cX10_advance 105 = .ok (.getfield 44, 3) := by decide +kernel
theorem dX10_advance_108 : decode cX10_advance 108 = .ok (.iconst 2, 1) := by decide +kernel
theorem dX10_advance_109 : decode cX10_advance 109 = .ok (.if_icmp .ne 7, 3) := by decide +kernel
theorem dX10_advance_112 : decode cX10_advance 112 = .ok (.iconst 1, 1) := by decide +kernel
theorem dX10_advance_113 : decode cX10_advance 113 = .ok (.goto 4, 3) := by decide +kernel
theorem dX10_advance_116 : decode cX10_advance 116 = .ok (.iconst 0, 1) := by decide +kernel
theorem dX10_advance_117 : decode cX10_advance 117 = .ok (.istore_n 1, 1) := by decide +kernel
theorem dX10_advance_118 : decode cX10_advance 118 = .ok (.iload_n 1, 1) := by decide +kernel
theorem dX10_advance_119 : decode cX10_advance 119 = .ok (.ifCond .eq 46, 3) := by decide +kernel
theorem dX10_advance_122 : decode cX10_advance 122 = .ok (.aload_n 0, 1) := by decide +kernel
theorem dX10_advance_123 : decode cX10_advance 123 = .ok (.getfield 19, 3) := by decide +kernel
theorem dX10_advance_126 : decode cX10_advance 126 = .ok (.aload_n 0, 1) := by decide +kernel
theorem dX10_advance_127 : decode cX10_advance 127 = .ok (.getfield 15, 3) := by decide +kernel
theorem dX10_advance_130 : decode cX10_advance 130 = .ok (.if_icmp .ge 35, 3) := by decide +kernel
theorem dX10_advance_133 : decode cX10_advance 133 = .ok (.aload_n 0, 1) := by decide +kernel
theorem dX10_advance_134 : decode cX10_advance 134 = .ok (.getfield 9, 3) := by decide +kernel
theorem dX10_advance_137 : decode cX10_advance 137 = .ok (.aload_n 0, 1) := by decide +kernel
theorem dX10_advance_138 : decode cX10_advance 138 = .ok (.getfield 19, 3) := by decide +kernel
theorem dX10_advance_141 : decode cX10_advance 141 = .ok (.baload, 1) := by decide +kernel
theorem dX10_advance_142 : decode cX10_advance 142 = .ok (.invokestatic 88, 3) := by decide +kernel
theorem dX10_advance_145 : decode cX10_advance 145 = .ok (.aload_n 0, 1) := by decide +kernel
theorem dX10_advance_146 : decode cX10_advance 146 = .ok (.getfield 44, 3) := by decide +kernel
theorem dX10_advance_149 : decode cX10_advance 149 = .ok (.if_icmp .ne 16, 3) := by decide +kernel
theorem dX10_advance_152 : decode cX10_advance 152 = .ok (.aload_n 0, 1) := by decide +kernel
theorem dX10_advance_153 : decode cX10_advance 153 = .ok (.dup, 1) := by decide +kernel
theorem dX10_advance_154 : decode cX10_advance 154 = .ok (.getfield 19, 3) := by decide +kernel
theorem dX10_advance_157 : decode cX10_advance 157 = .ok (.iconst 1, 1) := by decide +kernel
theorem dX10_advance_158 : decode cX10_advance 158 = .ok (.iadd, 1) := by decide +kernel
theorem dX10_advance_159 : decode cX10_advance 159 = .ok (.putfield 19, 3) := by decide +kernel
theorem dX10_advance_162 : decode cX10_advance 162 = .ok (.goto (-44), 3) := by decide +kernel
theorem dX10_advance_165 : decode cX10_advance 165 = .ok (.return_, 1) := by decide +kernel
theorem dX10_sortOf_0 : decode cX10_sortOf 0 = .ok (.iload_n 0, 1) := by decide +kernel
theorem dX10_sortOf_1 : decode cX10_sortOf 1 = .ok (.bipush 97, 2) := by decide +kernel
theorem dX10_sortOf_3 : decode cX10_sortOf 3 = .ok (.if_icmp .lt 11, 3) := by decide +kernel
theorem dX10_sortOf_6 : decode cX10_sortOf 6 = .ok (.iload_n 0, 1) := by decide +kernel
theorem dX10_sortOf_7 : decode cX10_sortOf 7 = .ok (.bipush 122, 2) := by decide +kernel
theorem dX10_sortOf_9 : decode cX10_sortOf 9 = .ok (.if_icmp .gt 5, 3) := by decide +kernel
theorem dX10_sortOf_12 : decode cX10_sortOf 12 = .ok (.iconst 1, 1) := by decide +kernel
theorem dX10_sortOf_13 : decode cX10_sortOf 13 = .ok (.ireturn, 1) := by decide +kernel
theorem dX10_sortOf_14 : decode cX10_sortOf 14 = .ok (.iload_n 0, 1) := by decide +kernel
theorem dX10_sortOf_15 : decode cX10_sortOf 15 = .ok (.bipush 48, 2) := by decide +kernel
theorem dX10_sortOf_17 : decode cX10_sortOf 17 = .ok (.if_icmp .lt 11, 3) := by decide +kernel
theorem dX10_sortOf_20 : decode cX10_sortOf 20 = .ok (.iload_n 0, 1) := by decide +kernel
theorem dX10_sortOf_21 : decode cX10_sortOf 21 = .ok (.bipush 57, 2) := by decide +kernel
theorem dX10_sortOf_23 : decode cX10_sortOf 23 = .ok (.if_icmp .gt 5, 3) := by decide +kernel
theorem dX10_sortOf_26 : decode cX10_sortOf 26 = .ok (.iconst 2, 1) := by decide +kernel
theorem dX10_sortOf_27 : decode cX10_sortOf 27 = .ok (.ireturn, 1) := by decide +kernel
theorem dX10_sortOf_28 : decode cX10_sortOf 28 = .ok (.iload_n 0, 1) := by decide +kernel
theorem dX10_sortOf_29 : decode cX10_sortOf 29 = .ok (.bipush 59, 2) := by decide +kernel
theorem dX10_sortOf_31 : decode cX10_sortOf 31 = .ok (.if_icmp .ne 7, 3) := by decide +kernel
theorem dX10_sortOf_34 : decode cX10_sortOf 34 = .ok (.iconst 3, 1) := by decide +kernel
theorem dX10_sortOf_35 : decode cX10_sortOf 35 = .ok (.goto 4, 3) := by decide +kernel
theorem dX10_sortOf_38 : decode cX10_sortOf 38 = .ok (.iconst 4, 1) := by decide +kernel
theorem dX10_sortOf_39 : decode cX10_sortOf 39 = .ok (.ireturn, 1) := by decide +kernel
theorem dJ6_bitCount_0f7a4_0 : decode cJ6_bitCount_0f7a4 0 = .ok (.iload_n 0, 1) := by decide +kernel
theorem dJ6_bitCount_0f7a4_1 : decode cJ6_bitCount_0f7a4 1 = .ok (.iload_n 0, 1) := by decide +kernel
theorem dJ6_bitCount_0f7a4_2 : decode cJ6_bitCount_0f7a4 2 = .ok (.iconst 1, 1) := by decide +kernel
theorem dJ6_bitCount_0f7a4_3 : decode cJ6_bitCount_0f7a4 3 = .ok (.iushr, 1) := by decide +kernel
theorem dJ6_bitCount_0f7a4_4 : decode cJ6_bitCount_0f7a4 4 = .ok (.ldc_w 265, 3) := by decide +kernel
theorem dJ6_bitCount_0f7a4_7 : decode cJ6_bitCount_0f7a4 7 = .ok (.iand, 1) := by decide +kernel
theorem dJ6_bitCount_0f7a4_8 : decode cJ6_bitCount_0f7a4 8 = .ok (.isub, 1) := by decide +kernel
theorem dJ6_bitCount_0f7a4_9 : decode cJ6_bitCount_0f7a4 9 = .ok (.istore_n 0, 1) := by decide +kernel
theorem dJ6_bitCount_0f7a4_10 : decode cJ6_bitCount_0f7a4 10 = .ok (.iload_n 0, 1) := by decide +kernel
theorem dJ6_bitCount_0f7a4_11 : decode cJ6_bitCount_0f7a4 11 = .ok (.ldc_w 266, 3) := by decide +kernel
theorem dJ6_bitCount_0f7a4_14 : decode cJ6_bitCount_0f7a4 14 = .ok (.iand, 1) := by decide +kernel
theorem dJ6_bitCount_0f7a4_15 : decode cJ6_bitCount_0f7a4 15 = .ok (.iload_n 0, 1) := by decide +kernel
theorem dJ6_bitCount_0f7a4_16 : decode cJ6_bitCount_0f7a4 16 = .ok (.iconst 2, 1) := by decide +kernel
theorem dJ6_bitCount_0f7a4_17 : decode cJ6_bitCount_0f7a4 17 = .ok (.iushr, 1) := by decide +kernel
theorem dJ6_bitCount_0f7a4_18 : decode cJ6_bitCount_0f7a4 18 = .ok (.ldc_w 266, 3) := by decide +kernel
theorem dJ6_bitCount_0f7a4_21 : decode cJ6_bitCount_0f7a4 21 = .ok (.iand, 1) := by decide +kernel
theorem dJ6_bitCount_0f7a4_22 : decode cJ6_bitCount_0f7a4 22 = .ok (.iadd, 1) := by decide +kernel
theorem dJ6_bitCount_0f7a4_23 : decode cJ6_bitCount_0f7a4 23 = .ok (.istore_n 0, 1) := by decide +kernel
theorem dJ6_bitCount_0f7a4_24 : decode cJ6_bitCount_0f7a4 24 = .ok (.iload_n 0, 1) := by decide +kernel
theorem dJ6_bitCount_0f7a4_25 : decode cJ6_bitCount_0f7a4 25 = .ok (.iload_n 0, 1) := by decide +kernel
theorem dJ6_bitCount_0f7a4_26 : decode cJ6_bitCount_0f7a4 26 = .ok (.iconst 4, 1) := by decide +kernel
theorem dJ6_bitCount_0f7a4_27 : decode cJ6_bitCount_0f7a4 27 = .ok (.iushr, 1) := by decide +kernel
theorem dJ6_bitCount_0f7a4_28 : decode cJ6_bitCount_0f7a4 28 = .ok (.iadd, 1) := by decide +kernel
theorem dJ6_bitCount_0f7a4_29 : decode cJ6_bitCount_0f7a4 29 = .ok (.ldc_w 267, 3) := by decide +kernel
theorem dJ6_bitCount_0f7a4_32 : decode cJ6_bitCount_0f7a4 32 = .ok (.iand, 1) := by decide +kernel
theorem dJ6_bitCount_0f7a4_33 : decode cJ6_bitCount_0f7a4 33 = .ok (.istore_n 0, 1) := by decide +kernel
theorem dJ6_bitCount_0f7a4_34 : decode cJ6_bitCount_0f7a4 34 = .ok (.iload_n 0, 1) := by decide +kernel
theorem dJ6_bitCount_0f7a4_35 : decode cJ6_bitCount_0f7a4 35 = .ok (.iload_n 0, 1) := by decide +kernel
theorem dJ6_bitCount_0f7a4_36 : decode cJ6_bitCount_0f7a4 36 = .ok (.bipush 8, 2) := by decide +kernel
theorem dJ6_bitCount_0f7a4_38 : decode cJ6_bitCount_0f7a4 38 = .ok (.iushr, 1) := by decide +kernel
theorem dJ6_bitCount_0f7a4_39 : decode cJ6_bitCount_0f7a4 39 = .ok (.iadd, 1) := by decide +kernel
theorem dJ6_bitCount_0f7a4_40 : decode cJ6_bitCount_0f7a4 40 = .ok (.istore_n 0, 1) := by decide +kernel
theorem dJ6_bitCount_0f7a4_41 : decode cJ6_bitCount_0f7a4 41 = .ok (.iload_n 0, 1) := by decide +kernel
theorem dJ6_bitCount_0f7a4_42 : decode cJ6_bitCount_0f7a4 42 = .ok (.iload_n 0, 1) := by decide +kernel
theorem dJ6_bitCount_0f7a4_43 : decode cJ6_bitCount_0f7a4 43 = .ok (.bipush 16, 2) := by decide +kernel
theorem dJ6_bitCount_0f7a4_45 : decode cJ6_bitCount_0f7a4 45 = .ok (.iushr, 1) := by decide +kernel
theorem dJ6_bitCount_0f7a4_46 : decode cJ6_bitCount_0f7a4 46 = .ok (.iadd, 1) := by decide +kernel
theorem dJ6_bitCount_0f7a4_47 : decode cJ6_bitCount_0f7a4 47 = .ok (.istore_n 0, 1) := by decide +kernel
theorem dJ6_bitCount_0f7a4_48 : decode cJ6_bitCount_0f7a4 48 = .ok (.iload_n 0, 1) := by decide +kernel
theorem dJ6_bitCount_0f7a4_49 : decode cJ6_bitCount_0f7a4 49 = .ok (.bipush 63, 2) := by decide +kernel
theorem dJ6_bitCount_0f7a4_51 : decode cJ6_bitCount_0f7a4 51 = .ok (.iand, 1) := by decide +kernel
theorem dJ6_bitCount_0f7a4_52 : decode cJ6_bitCount_0f7a4 52 = .ok (.ireturn, 1) := by decide +kernel
theorem dJ9_abs_0f7a4_0 : decode cJ9_abs_0f7a4 0 = .ok (.iload_n 0, 1) := by decide +kernel
theorem dJ9_abs_0f7a4_1 : decode cJ9_abs_0f7a4 1 = .ok (.ifCond .ge 8, 3) := by decide +kernel
theorem dJ9_abs_0f7a4_4 : decode cJ9_abs_0f7a4 4 = .ok (.iload_n 0, 1) := by decide +kernel
theorem dJ9_abs_0f7a4_5 : decode cJ9_abs_0f7a4 5 = .ok (.ineg, 1) := by decide +kernel
theorem dJ9_abs_0f7a4_6 : decode cJ9_abs_0f7a4 6 = .ok (.goto 4, 3) := by decide +kernel
theorem dJ9_abs_0f7a4_9 : decode cJ9_abs_0f7a4 9 = .ok (.iload_n 0, 1) := by decide +kernel
theorem dJ9_abs_0f7a4_10 : decode cJ9_abs_0f7a4 10 = .ok (.ireturn, 1) := by decide +kernel
theorem dJ9_max_7cf53_0 : decode cJ9_max_7cf53 0 = .ok (.iload_n 0, 1) := by decide +kernel
theorem dJ9_max_7cf53_1 : decode cJ9_max_7cf53 1 = .ok (.iload_n 1, 1) := by decide +kernel
theorem dJ9_max_7cf53_2 : decode cJ9_max_7cf53 2 = .ok (.if_icmp .lt 7, 3) := by decide +kernel
theorem dJ9_max_7cf53_5 : decode cJ9_max_7cf53 5 = .ok (.iload_n 0, 1) := by decide +kernel
theorem dJ9_max_7cf53_6 : decode cJ9_max_7cf53 6 = .ok (.goto 4, 3) := by decide +kernel
theorem dJ9_max_7cf53_9 : decode cJ9_max_7cf53 9 = .ok (.iload_n 1, 1) := by decide +kernel
theorem dJ9_max_7cf53_10 : decode cJ9_max_7cf53 10 = .ok (.ireturn, 1) := by decide +kernel
theorem dJ0_length_8abf5_0 : decode cJ0_length_8abf5 0 = .ok (.aload_n 0, 1) := by decide +kernel
theorem dJ0_length_8abf5_1 : decode cJ0_length_8abf5 1 = .ok (.getfield 9, 3) := by decide +kernel
theorem dJ0_length_8abf5_4 : decode cJ0_length_8abf5 4 = .ok (.arraylength, 1) := by decide +kernel
theorem dJ0_length_8abf5_5 : decode cJ0_length_8abf5 5 = .ok (.aload_n 0, 1) := by decide +kernel
theorem dJ0_length_8abf5_6 : decode cJ0_length_8abf5 6 = .ok (.invokevirtual 335, 3) := by decide +kernel
theorem dJ0_length_8abf5_9 : decode cJ0_length_8abf5 9 = .ok (.ishr, 1) := by decide +kernel
theorem dJ0_length_8abf5_10 : decode cJ0_length_8abf5 10 = .ok (.ireturn, 1) := by decide +kernel
theorem dJ0_charAt_5068e_0 : decode cJ0_charAt_5068e 0 = .ok (.aload_n 0, 1) := by decide +kernel
theorem dJ0_charAt_5068e_1 : decode cJ0_charAt_5068e 1 = .ok (.invokevirtual 492, 3) := by decide +kernel
theorem dJ0_charAt_5068e_4 : decode cJ0_charAt_5068e 4 = .ok (.ifCond .eq 12, 3) := by decide +kernel
theorem dJ0_charAt_5068e_7 : decode cJ0_charAt_5068e 7 = .ok (.aload_n 0, 1) := by decide +kernel
theorem dJ0_charAt_5068e_8 : decode cJ0_charAt_5068e 8 = .ok (.getfield 9, 3) := by decide +kernel
theorem dJ0_charAt_5068e_11 : decode cJ0_charAt_5068e 11 = .ok (.iload_n 1, 1) := by decide +kernel
theorem dJ0_charAt_5068e_12 : decode cJ0_charAt_5068e 12 = .ok (.invokestatic 495, 3) := by decide +kernel
theorem dJ0_charAt_5068e_15 : decode cJ0_charAt_5068e 15 = .ok (.ireturn, 1) := by decide +kernel
theorem dJ0_charAt_5068e_16 : decode cJ0_charAt_5068e 16 = .ok (.aload_n 0, 1) := by decide +kernel
theorem dJ0_charAt_5068e_17 : decode cJ0_charAt_5068e 17 = .ok (.getfield 9, 3) := by decide +kernel
theorem dJ0_charAt_5068e_20 : decode cJ0_charAt_5068e 20 = .ok (.iload_n 1, 1) := by decide +kernel
theorem dJ0_charAt_5068e_21 : decode cJ0_charAt_5068e 21 = .ok (.invokestatic 498, 3) := by decide +kernel
theorem dJ0_charAt_5068e_24 : decode cJ0_charAt_5068e 24 = .ok (.ireturn, 1) := by decide +kernel
theorem dJ0_coder_7d493_0 : decode cJ0_coder_7d493 0 = .ok (.getstatic 38, 3) := by decide +kernel
theorem dJ0_coder_7d493_3 : decode cJ0_coder_7d493 3 = .ok (.ifCond .eq 10, 3) := by decide +kernel
theorem dJ0_coder_7d493_6 : decode cJ0_coder_7d493 6 = .ok (.aload_n 0, 1) := by decide +kernel
theorem dJ0_coder_7d493_7 : decode cJ0_coder_7d493 7 = .ok (.getfield 15, 3) := by decide +kernel
theorem dJ0_coder_7d493_10 : decode cJ0_coder_7d493 10 = .ok (.goto 4, 3) := by decide +kernel
theorem dJ0_coder_7d493_13 : decode cJ0_coder_7d493 13 = .ok (.iconst 1, 1) := by decide +kernel
theorem dJ0_coder_7d493_14 : decode cJ0_coder_7d493 14 = .ok (.ireturn, 1) := by decide +kernel
theorem dJ0_isLatin1_aae02_0 : decode cJ0_isLatin1_aae02 0 = .ok (.getstatic 38, 3) := by decide +kernel
theorem dJ0_isLatin1_aae02_3 : decode cJ0_isLatin1_aae02 3 = .ok (.ifCond .eq 14, 3) := by decide +kernel
theorem dJ0_isLatin1_aae02_6 : decode cJ0_isLatin1_aae02 6 = .ok (.aload_n 0, 1) := by decide +kernel
theorem dJ0_isLatin1_aae02_7 : decode cJ0_isLatin1_aae02 7 = .ok (.getfield 15, 3) := by decide +kernel
theorem dJ0_isLatin1_aae02_10 : decode cJ0_isLatin1_aae02 10 = .ok (.ifCond .ne 7, 3) := by decide +kernel
theorem dJ0_isLatin1_aae02_13 : decode cJ0_isLatin1_aae02 13 = .ok (.iconst 1, 1) := by decide +kernel
theorem dJ0_isLatin1_aae02_14 : decode cJ0_isLatin1_aae02 14 = .ok (.goto 4, 3) := by decide +kernel
theorem dJ0_isLatin1_aae02_17 : decode cJ0_isLatin1_aae02 17 = .ok (.iconst 0, 1) := by decide +kernel
theorem dJ0_isLatin1_aae02_18 : decode cJ0_isLatin1_aae02 18 = .ok (.ireturn, 1) := by decide +kernel
theorem dJ0_checkIndex_df160_0 : decode cJ0_checkIndex_df160 0 = .ok (.iload_n 0, 1) := by decide +kernel
theorem dJ0_checkIndex_df160_1 : decode cJ0_checkIndex_df160 1 = .ok (.iload_n 1, 1) := by decide +kernel
theorem dJ0_checkIndex_df160_2 : decode cJ0_checkIndex_df160 2 = .ok (.getstatic 1053, 3) := by decide +kernel
theorem dJ0_checkIndex_df160_5 : decode cJ0_checkIndex_df160 5 = .ok (.invokestatic 1059, 3) := by decide +kernel
theorem dJ0_checkIndex_df160_8 : decode cJ0_checkIndex_df160 8 = .ok (.pop, 1) := by decide +kernel
theorem dJ0_checkIndex_df160_9 : decode cJ0_checkIndex_df160 9 = .ok (.return_, 1) := by decide +kernel
theorem dJ1_charAt_3b067_0 : decode cJ1_charAt_3b067 0 = .ok (.iload_n 1, 1) := by decide +kernel
theorem dJ1_charAt_3b067_1 : decode cJ1_charAt_3b067 1 = .ok (.aload_n 0, 1) := by decide +kernel
theorem dJ1_charAt_3b067_2 : decode cJ1_charAt_3b067 2 = .ok (.arraylength, 1) := by decide +kernel
theorem dJ1_charAt_3b067_3 : decode cJ1_charAt_3b067 3 = .ok (.invokestatic 9, 3) := by decide +kernel
theorem dJ1_charAt_3b067_6 : decode cJ1_charAt_3b067 6 = .ok (.aload_n 0, 1) := by decide +kernel
theorem dJ1_charAt_3b067_7 : decode cJ1_charAt_3b067 7 = .ok (.iload_n 1, 1) := by decide +kernel
theorem dJ1_charAt_3b067_8 : decode cJ1_charAt_3b067 8 = .ok (.baload, 1) := by decide +kernel
theorem dJ1_charAt_3b067_9 : decode cJ1_charAt_3b067 9 = .ok (.sipush 255, 3) := by decide +kernel
theorem dJ1_charAt_3b067_12 : decode cJ1_charAt_3b067 12 = .ok (.iand, 1) := by decide +kernel
theorem dJ1_charAt_3b067_13 : decode cJ1_charAt_3b067 13 = .ok (.i2c, 1) := by decide +kernel
theorem dJ1_charAt_3b067_14 : decode cJ1_charAt_3b067 14 = .ok (.ireturn, 1) := by decide +kernel
theorem dJ2_getChar_3b067_0 : decode cJ2_getChar_3b067 0 = .ok (.getstatic 44, 3) := by decide +kernel
theorem dJ2_getChar_3b067_3 : decode cJ2_getChar_3b067 3 = .ok (.ifCond .ne 25, 3) := by decide +kernel
theorem dJ2_getChar_3b067_6 : decode cJ2_getChar_3b067 6 = .ok (.iload_n 1, 1) := by decide +kernel
theorem dJ2_getChar_3b067_7 : decode cJ2_getChar_3b067 7 = .ok (.ifCond .lt 11, 3) := by decide +kernel
theorem dJ2_getChar_3b067_10 : decode cJ2_getChar_3b067 10 = .ok (.iload_n 1, 1) := by decide +kernel
theorem dJ2_getChar_3b067_11 : decode cJ2_getChar_3b067 11 = .ok (.aload_n 0, 1) := by decide +kernel
theorem dJ2_getChar_3b067_12 : decode cJ2_getChar_3b067 12 = .ok (.invokestatic 48, 3) := by decide +kernel
theorem dJ2_getChar_3b067_15 : decode cJ2_getChar_3b067 15 = .ok (.if_icmp .lt 13, 3) := by decide +kernel
theorem dJ2_getChar_3b067_18 : decode cJ2_getChar_3b067 18 = .ok (.new 52, 3) := by decide +kernel
theorem dJ2_getChar_3b067_21 : decode cJ2_getChar_3b067 21 = .ok (.dup, 1) := by decide +kernel
theorem dJ2_getChar_3b067_22 : decode cJ2_getChar_3b067 22 = .ok (.ldc 54, 2) := by decide +kernel
theorem dJ2_getChar_3b067_24 : decode cJ2_getChar_3b067 24 = .ok (.invokespecial 56, 3) := by decide +kernel
theorem dJ2_getChar_3b067_27 : decode cJ2_getChar_3b067 27 = .ok (.athrow, 1) := by decide +kernel
theorem dJ2_getChar_3b067_28 : decode cJ2_getChar_3b067 28 = .ok (.iload_n 1, 1) := by decide +kernel
theorem dJ2_getChar_3b067_29 : decode cJ2_getChar_3b067 29 = .ok (.iconst 1, 1) := by decide +kernel
theorem dJ2_getChar_3b067_30 : decode cJ2_getChar_3b067 30 = .ok (.ishl, 1) := by decide +kernel
theorem dJ2_getChar_3b067_31 : decode cJ2_getChar_3b067 31 = .ok (.istore_n 1, 1) := by decide +kernel
theorem dJ2_getChar_3b067_32 : decode cJ2_getChar_3b067 32 = .ok (.aload_n 0, 1) := by decide +kernel
theorem dJ2_getChar_3b067_33 : decode cJ2_getChar_3b067 33 = .ok (.iload_n 1, 1) := by decide +kernel
theorem dJ2_getChar_3b067_34 : decode cJ2_getChar_3b067 34 = .ok (.iinc 1 1, 3) := by decide +kernel
theorem dJ2_getChar_3b067_37 : decode cJ2_getChar_3b067 37 = .ok (.baload, 1) := by decide +kernel
theorem dJ2_getChar_3b067_38 : decode cJ2_getChar_3b067 38 = .ok (.sipush 255, 3) := by decide +kernel
theorem dJ2_getChar_3b067_41 : decode cJ2_getChar_3b067 41 = .ok (.iand, 1) := by decide +kernel
theorem dJ2_getChar_3b067_42 : decode cJ2_getChar_3b067 42 = .ok (.getstatic 59, 3) := by decide +kernel
theorem dJ2_getChar_3b067_45 : decode cJ2_getChar_3b067 45 = .ok (.ishl, 1) := by decide +kernel
theorem dJ2_getChar_3b067_46 : decode cJ2_getChar_3b067 46 = .ok (.aload_n 0, 1) := by decide +kernel
theorem dJ2_getChar_3b067_47 : decode cJ2_getChar_3b067 47 = .ok (.iload_n 1, 1) := by decide +kernel
theorem dJ2_getChar_3b067_48 : decode cJ2_getChar_3b067 48 = .ok (.baload, 1) := by decide +kernel
theorem dJ2_getChar_3b067_49 : decode cJ2_getChar_3b067 49 = .ok (.sipush 255, 3) := by decide +kernel
theorem dJ2_getChar_3b067_52 : decode cJ2_getChar_3b067 52 = .ok (.iand, 1) := by decide +kernel
theorem dJ2_getChar_3b067_53 : decode cJ2_getChar_3b067 53 = .ok (.getstatic 63, 3) := by decide +kernel
theorem dJ2_getChar_3b067_56 : decode cJ2_getChar_3b067 56 = .ok (.ishl, 1) := by decide +kernel
theorem dJ2_getChar_3b067_57 : decode cJ2_getChar_3b067 57 = .ok (.ior, 1) := by decide +kernel
theorem dJ2_getChar_3b067_58 : decode cJ2_getChar_3b067 58 = .ok (.i2c, 1) := by decide +kernel
theorem dJ2_getChar_3b067_59 : decode cJ2_getChar_3b067 59 = .ok (.ireturn, 1) := by decide +kernel
theorem dJ2_length_9d52b_0 : decode cJ2_length_9d52b 0 = .ok (.aload_n 0, 1) := by decide +kernel
theorem dJ2_length_9d52b_1 : decode cJ2_length_9d52b 1 = .ok (.arraylength, 1) := by decide +kernel
theorem dJ2_length_9d52b_2 : decode cJ2_length_9d52b 2 = .ok (.iconst 1, 1) := by decide +kernel
theorem dJ2_length_9d52b_3 : decode cJ2_length_9d52b 3 = .ok (.ishr, 1) := by decide +kernel
theorem dJ2_length_9d52b_4 : decode cJ2_length_9d52b 4 = .ok (.ireturn, 1) := by decide +kernel
theorem dJ2_charAt_3b067_0 : decode cJ2_charAt_3b067 0 = .ok (.iload_n 1, 1) := by decide +kernel
theorem dJ2_charAt_3b067_1 : decode cJ2_charAt_3b067 1 = .ok (.aload_n 0, 1) := by decide +kernel
theorem dJ2_charAt_3b067_2 : decode cJ2_charAt_3b067 2 = .ok (.invokestatic 67, 3) := by decide +kernel
theorem dJ2_charAt_3b067_5 : decode cJ2_charAt_3b067 5 = .ok (.aload_n 0, 1) := by decide +kernel
theorem dJ2_charAt_3b067_6 : decode cJ2_charAt_3b067 6 = .ok (.iload_n 1, 1) := by decide +kernel
theorem dJ2_charAt_3b067_7 : decode cJ2_charAt_3b067 7 = .ok (.invokestatic 71, 3) := by decide +kernel
theorem dJ2_charAt_3b067_10 : decode cJ2_charAt_3b067 10 = .ok (.ireturn, 1) := by decide +kernel
theorem dJ2_checkIndex_2214a_0 : decode cJ2_checkIndex_2214a 0 = .ok (.iload_n 0, 1) := by decide +kernel
theorem dJ2_checkIndex_2214a_1 : decode cJ2_checkIndex_2214a 1 = .ok (.aload_n 1, 1) := by decide +kernel
theorem dJ2_checkIndex_2214a_2 : decode cJ2_checkIndex_2214a 2 = .ok (.invokestatic 48, 3) := by decide +kernel
theorem dJ2_checkIndex_2214a_5 : decode cJ2_checkIndex_2214a 5 = .ok (.invokestatic 414, 3) := by decide +kernel
theorem dJ2_checkIndex_2214a_8 : decode cJ2_checkIndex_2214a 8 = .ok (.return_, 1) := by decide +kernel
theorem dJ7_fill_53178_0 : decode cJ7_fill_53178 0 = .ok (.iconst 0, 1) := by decide +kernel
theorem dJ7_fill_53178_1 : decode cJ7_fill_53178 1 = .ok (.istore_n 2, 1) := by decide +kernel
theorem dJ7_fill_53178_2 : decode cJ7_fill_53178 2 = .ok (.aload_n 0, 1) := by decide +kernel
theorem dJ7_fill_53178_3 : decode cJ7_fill_53178 3 = .ok (.arraylength, 1) := by decide +kernel
theorem dJ7_fill_53178_4 : decode cJ7_fill_53178 4 = .ok (.istore_n 3, 1) := by decide +kernel
theorem dJ7_fill_53178_5 : decode cJ7_fill_53178 5 = .ok (.iload_n 2, 1) := by decide +kernel
theorem dJ7_fill_53178_6 : decode cJ7_fill_53178 6 = .ok (.iload_n 3, 1) := by decide +kernel
theorem dJ7_fill_53178_7 : decode cJ7_fill_53178 7 = .ok (.if_icmp .ge 13, 3) := by decide +kernel
theorem dJ7_fill_53178_10 : decode cJ7_fill_53178 10 = .ok (.aload_n 0, 1) := by decide +kernel
theorem dJ7_fill_53178_11 : decode cJ7_fill_53178 11 = .ok (.iload_n 2, 1) := by decide +kernel
theorem dJ7_fill_53178_12 : decode cJ7_fill_53178 12 = .ok (.iload_n 1, 1) := by decide +kernel
theorem dJ7_fill_53178_13 : decode cJ7_fill_53178 13 = .ok (.iastore, 1) := by decide +kernel
theorem dJ7_fill_53178_14 : decode cJ7_fill_53178 14 = .ok (.iinc 2 1, 3) := by decide +kernel
theorem dJ7_fill_53178_17 : decode cJ7_fill_53178 17 = .ok (.goto (-12), 3) := by decide +kernel
theorem dJ7_fill_53178_20 : decode cJ7_fill_53178 20 = .ok (.return_, 1) := by decide +kernel
theorem dJ3_checkIndex_8e157_0 : decode cJ3_checkIndex_8e157 0 = .ok (.iload_n 0, 1) := by decide +kernel
theorem dJ3_checkIndex_8e157_1 : decode cJ3_checkIndex_8e157 1 = .ok (.ifCond .lt 8, 3) := by decide +kernel
theorem dJ3_checkIndex_8e157_4 : decode cJ3_checkIndex_8e157 4 = .ok (.iload_n 0, 1) := by decide +kernel
theorem dJ3_checkIndex_8e157_5 : decode cJ3_checkIndex_8e157 5 = .ok (.iload_n 1, 1) := by decide +kernel
theorem dJ3_checkIndex_8e157_6 : decode cJ3_checkIndex_8e157 6 = .ok (.if_icmp .lt 10, 3) := by decide +kernel
theorem dJ3_checkIndex_8e157_9 : decode cJ3_checkIndex_8e157 9 = .ok (.aload_n 2, 1) := by decide +kernel
theorem dJ3_checkIndex_8e157_10 : decode cJ3_checkIndex_8e157 10 = .ok (.iload_n 0, 1) := by decide +kernel
theorem dJ3_checkIndex_8e157_11 : decode cJ3_checkIndex_8e157 11 = .ok (.iload_n 1, 1) := by decide +kernel
theorem dJ3_checkIndex_8e157_12 : decode cJ3_checkIndex_8e157 12 = .ok (.invokestatic 95, 3) := by decide +kernel
theorem dJ3_checkIndex_8e157_15 : decode cJ3_checkIndex_8e157 15 = .ok (.athrow, 1) := by decide +kernel
theorem dJ3_checkIndex_8e157_16 : decode cJ3_checkIndex_8e157 16 = .ok (.iload_n 0, 1) := by decide +kernel
theorem dJ3_checkIndex_8e157_17 : decode cJ3_checkIndex_8e157 17 = .ok (.ireturn, 1) := by decide +kernel
