theorem dX11_init_0 : decode cX11_init 0 = .ok (.aload_n 0, 1) := by decide +kernel
theorem dX11_init_1 : decode cX11_init 1 = .ok (.invokespecial 1, 3) := by decide +kernel
theorem dX11_init_4 : decode cX11_init 4 = .ok (.aload_n 0, 1) := by decide +kernel
theorem dX11_init_5 : decode cX11_init 5 = .ok (.new 7, 3) := by decide +kernel
theorem dX11_init_8 : decode cX11_init 8 = .ok (.dup, 1) := by decide +kernel
theorem dX11_init_9 : decode cX11_init 9 = .ok (.invokespecial 9, 3) := by decide +kernel
theorem dX11_init_12 : decode cX11_init 12 = .ok (.putfield 10, 3) := by decide +kernel
theorem dX11_init_15 : decode cX11_init 15 = .ok (.aload_n 0, 1) := by decide +kernel
theorem dX11_init_16 : decode cX11_init 16 = .ok (.new 7, 3) := by decide +kernel
theorem dX11_init_19 : decode cX11_init 19 = .ok (.dup, 1) := by decide +kernel
theorem dX11_init_20 : decode cX11_init 20 = .ok (.invokespecial 9, 3) := by decide +kernel
theorem dX11_init_23 : decode cX11_init 23 = .ok (.putfield 16, 3) := by decide +kernel
theorem dX11_init_26 : decode cX11_init 26 = .ok (.aload_n 0, 1) := by decide +kernel
theorem dX11_init_27 : decode cX11_init 27 = .ok (.iconst 2, 1) := by decide +kernel
theorem dX11_init_28 : decode cX11_init 28 = .ok (.anewarray 7, 3) := by decide +kernel
theorem dX11_init_31 : decode cX11_init 31 = .ok (.dup, 1) := by decide +kernel
theorem dX11_init_32 : decode cX11_init 32 = .ok (.iconst 0, 1) := by decide +kernel
theorem dX11_init_33 : decode cX11_init 33 = .ok (.new 7, 3) := by decide +kernel
theorem dX11_init_36 : decode cX11_init 36 = .ok (.dup, 1) := by decide +kernel
theorem dX11_init_37 : decode cX11_init 37 = .ok (.invokespecial 9, 3) := by decide +kernel
theorem dX11_init_40 : decode cX11_init 40 = .ok (.aastore, 1) := by decide +kernel
theorem dX11_init_41 : decode cX11_init 41 = .ok (.dup, 1) := by decide +kernel
theorem dX11_init_42 : decode cX11_init 42 = .ok (.iconst 1, 1) := by decide +kernel
theorem dX11_init_43 : decode cX11_init 43 = .ok (.new 7, 3) := by decide +kernel
theorem dX11_init_46 : decode cX11_init 46 = .ok (.dup, 1) := by decide +kernel
theorem dX11_init_47 : decode cX11_init 47 = .ok (.invokespecial 9, 3) := by decide +kernel
theorem dX11_init_50 : decode cX11_init 50 = .ok (.aastore, 1) := by decide +kernel
theorem dX11_init_51 : decode cX11_init 51 = .ok (.putfield 19, 3) := by decide +kernel
theorem dX11_init_54 : decode cX11_init 54 = .ok (.aload_n 0, 1) := by decide +kernel
theorem dX11_init_55 : decode cX11_init 55 = .ok (.iconst 2, 1) := by decide +kernel
theorem dX11_init_56 : decode cX11_init 56 = .ok (.newarray .boolean, 2) := by decide +kernel
theorem dX11_init_58 : decode cX11_init 58 = .ok (.putfield 23, 3) := by decide +kernel
theorem dX11_init_61 : decode cX11_init 61 = .ok (.aload_n 0, 1) := by decide +kernel
theorem dX11_init_62 : decode cX11_init 62 = .ok (.new 27, 3) := by decide +kernel
theorem dX11_init_65 : decode cX11_init 65 = .ok (.dup, 1) := by decide +kernel
theorem dX11_init_66 : decode cX11_init 66 = .ok (.invokespecial 29, 3) := by decide +kernel
theorem dX11_init_69 : decode cX11_init 69 = .ok (.putfield 30, 3) := by decide +kernel
theorem dX11_init_72 : decode cX11_init 72 = .ok (.aload_n 0, 1) := by decide +kernel
theorem dX11_init_73 : decode cX11_init 73 = .ok (.new 34, 3) := by decide +kernel
theorem dX11_init_76 : decode cX11_init 76 = .ok (.dup, 1) := by decide +kernel
theorem dX11_init_77 : decode cX11_init 77 = .ok (.invokespecial 36, 3) := by decide +kernel
theorem dX11_init_80 : decode cX11_init 80 = .ok (.putfield 37, 3) := by decide +kernel
theorem dX11_init_83 : decode cX11_init 83 = .ok (.aload_n 0, 1) := by decide +kernel
theorem dX11_init_84 : decode cX11_init 84 = .ok (.new 41, 3) := by decide +kernel
theorem dX11_init_87 : decode cX11_init 87 = .ok (.dup, 1) := by decide +kernel
theorem dX11_init_88 : decode cX11_init 88 = .ok (.invokespecial 43, 3) := by decide +kernel
theorem dX11_init_91 : decode cX11_init 91 = .ok (.putfield 44, 3) := by decide +kernel
theorem dX11_init_94 : decode cX11_init 94 = .ok (.aload_n 0, 1) := by decide +kernel
theorem dX11_init_95 : decode cX11_init 95 = .ok (.new 48, 3) := by decide +kernel
theorem dX11_init_98 : decode cX11_init 98 = .ok (.dup, 1) := by decide +kernel
theorem dX11_init_99 : decode cX11_init 99 = .ok (.invokespecial 50, 3) := by decide +kernel
theorem dX11_init_102 : decode cX11_init 102 = .ok (.putfield 51, 3) := by decide +kernel
theorem dX11_init_105 : decode cX11_init 105 = .ok (.aload_n 0, 1) := by decide +kernel
theorem dX11_init_106 : decode cX11_init 106 = .ok (.iconst 3, 1) := by decide +kernel
theorem dX11_init_107 : decode cX11_init 107 = .ok (.newarray .int, 2) := by decide +kernel
theorem dX11_init_109 : decode cX11_init 109 = .ok (.putfield 55, 3) := by decide +kernel
theorem dX11_init_112 : decode cX11_init 112 = .ok (.return_, 1) := by decide +kernel
theorem dX11_hamlet_0 : decode cX11_hamlet 0 = .ok (.iload_n 1, 1) := by decide +kernel
theorem dX11_hamlet_1 : decode cX11_hamlet 1 = .ok (.bipush 100, 2) := by decide +kernel
theorem dX11_hamlet_3 : decode cX11_hamlet 3 = .ok (.invokestatic 59, 3) := by decide +kernel
theorem dX11_hamlet_6 : decode cX11_hamlet 6 = .ok (.ifCond .ne 10, 3) := by decide +kernel
theorem dX11_hamlet_9 : decode cX11_hamlet 9 = .ok (.aload_n 0, 1) := by decide +kernel
theorem dX11_hamlet_10 : decode cX11_hamlet 10 = .ok (.bipush (-2), 2) := by decide +kernel
theorem dX11_hamlet_12 : decode cX11_hamlet 12 = .ok (.invokevirtual 63, 3) := by decide +kernel
theorem dX11_hamlet_15 : decode cX11_hamlet 15 = .ok (.ireturn, 1) := by decide +kernel
theorem dX11_hamlet_16 : decode cX11_hamlet 16 = .ok (.aload_n 0, 1) := by decide +kernel
theorem dX11_hamlet_17 : decode cX11_hamlet 17 = .ok (.getfield 10, 3) := by decide +kernel
theorem dX11_hamlet_20 : decode cX11_hamlet 20 = .ok (.getfield 67, 3) := by decide +kernel
theorem dX11_hamlet_23 : decode cX11_hamlet 23 = .ok (.istore_n 2, 1) := by decide +kernel
theorem dX11_hamlet_24 : decode cX11_hamlet 24 = .ok (.aload_n 0, 1) := by decide +kernel
theorem dX11_hamlet_25 : decode cX11_hamlet 25 = .ok (.getfield 10, 3) := by decide +kernel
theorem dX11_hamlet_28 : decode cX11_hamlet 28 = .ok (.iload_n 1, 1) := by decide +kernel
theorem dX11_hamlet_29 : decode cX11_hamlet 29 = .ok (.invokevirtual 71, 3) := by decide +kernel
theorem dX11_hamlet_32 : decode cX11_hamlet 32 = .ok (.iload_n 2, 1) := by decide +kernel
theorem dX11_hamlet_33 : decode cX11_hamlet 33 = .ok (.ireturn, 1) := by decide +kernel
theorem dX11_one_0 : decode cX11_one 0 = .ok (.iload_n 1, 1) := by decide +kernel
theorem dX11_one_1 : decode cX11_one 1 = .ok (.bipush 6, 2) := by decide +kernel
theorem dX11_one_3 : decode cX11_one 3 = .ok (.invokestatic 59, 3) := by decide +kernel
theorem dX11_one_6 : decode cX11_one 6 = .ok (.ifCond .eq 12, 3) := by decide +kernel
theorem dX11_one_9 : decode cX11_one 9 = .ok (.iload_n 2, 1) := by decide +kernel
theorem dX11_one_10 : decode cX11_one 10 = .ok (.bipush 10, 2) := by decide +kernel
theorem dX11_one_12 : decode cX11_one 12 = .ok (.invokestatic 59, 3) := by decide +kernel
theorem dX11_one_15 : decode cX11_one 15 = .ok (.ifCond .ne 10, 3) := by decide +kernel
theorem dX11_one_18 : decode cX11_one 18 = .ok (.aload_n 0, 1) := by decide +kernel
theorem dX11_one_19 : decode cX11_one 19 = .ok (.bipush (-2), 2) := by decide +kernel
theorem dX11_one_21 : decode cX11_one 21 = .ok (.invokevirtual 63, 3) := by decide +kernel
theorem dX11_one_24 : decode cX11_one 24 = .ok (.ireturn, 1) := by decide +kernel
theorem dX11_one_25 : decode cX11_one 25 = .ok (.aload_n 0, 1) := by decide +kernel
theorem dX11_one_26 : decode cX11_one 26 = .ok (.getfield 10, 3) := by decide +kernel
theorem dX11_one_29 : decode cX11_one 29 = .ok (.getfield 67, 3) := by decide +kernel
theorem dX11_one_32 : decode cX11_one 32 = .ok (.bipush 7, 2) := by decide +kernel
theorem dX11_one_34 : decode cX11_one 34 = .ok (.if_icmp .lt 10, 3) := by decide +kernel
theorem dX11_one_37 : decode cX11_one 37 = .ok (.aload_n 0, 1) := by decide +kernel
theorem dX11_one_38 : decode cX11_one 38 = .ok (.bipush (-4), 2) := by decide +kernel
theorem dX11_one_40 : decode cX11_one 40 = .ok (.invokevirtual 63, 3) := by decide +kernel
theorem dX11_one_43 : decode cX11_one 43 = .ok (.ireturn, 1) := by decide +kernel
theorem dX11_one_44 : decode cX11_one 44 = .ok (.aload_n 0, 1) := by decide +kernel
theorem dX11_one_45 : decode cX11_one 45 = .ok (.getfield 10, 3) := by decide +kernel
theorem dX11_one_48 : decode cX11_one 48 = .ok (.iload_n 1, 1) := by decide +kernel
theorem dX11_one_49 : decode cX11_one 49 = .ok (.iload_n 2, 1) := by decide +kernel
theorem dX11_one_50 : decode cX11_one 50 = .ok (.invokevirtual 75, 3) := by decide +kernel
theorem dX11_one_53 : decode cX11_one 53 = .ok (.aload_n 0, 1) := by decide +kernel
theorem dX11_one_54 : decode cX11_one 54 = .ok (.getfield 10, 3) := by decide +kernel
theorem dX11_one_57 : decode cX11_one 57 = .ok (.getfield 67, 3) := by decide +kernel
theorem dX11_one_60 : decode cX11_one 60 = .ok (.iconst 1, 1) := by decide +kernel
theorem dX11_one_61 : decode cX11_one 61 = .ok (.isub, 1) := by decide +kernel
theorem dX11_one_62 : decode cX11_one 62 = .ok (.ireturn, 1) := by decide +kernel
theorem dX11_type_0 : decode cX11_type 0 = .ok (.iload_n 1, 1) := by decide +kernel
theorem dX11_type_1 : decode cX11_type 1 = .ok (.sipush 128, 3) := by decide +kernel
theorem dX11_type_4 : decode cX11_type 4 = .ok (.invokestatic 59, 3) := by decide +kernel
theorem dX11_type_7 : decode cX11_type 7 = .ok (.ifCond .ne 10, 3) := by decide +kernel
theorem dX11_type_10 : decode cX11_type 10 = .ok (.aload_n 0, 1) := by decide +kernel
theorem dX11_type_11 : decode cX11_type 11 = .ok (.bipush (-2), 2) := by decide +kernel
theorem dX11_type_13 : decode cX11_type 13 = .ok (.invokevirtual 63, 3) := by decide +kernel
theorem dX11_type_16 : decode cX11_type 16 = .ok (.ireturn, 1) := by decide +kernel
theorem dX11_type_17 : decode cX11_type 17 = .ok (.aload_n 0, 1) := by decide +kernel
theorem dX11_type_18 : decode cX11_type 18 = .ok (.getfield 30, 3) := by decide +kernel
theorem dX11_type_21 : decode cX11_type 21 = .ok (.getfield 79, 3) := by decide +kernel
theorem dX11_type_24 : decode cX11_type 24 = .ok (.sipush 150, 3) := by decide +kernel
theorem dX11_type_27 : decode cX11_type 27 = .ok (.if_icmp .lt 10, 3) := by decide +kernel
theorem dX11_type_30 : decode cX11_type 30 = .ok (.aload_n 0, 1) := by decide +kernel
theorem dX11_type_31 : decode cX11_type 31 = .ok (.bipush (-4), 2) := by decide +kernel
theorem dX11_type_33 : decode cX11_type 33 = .ok (.invokevirtual 63, 3) := by decide +kernel
theorem dX11_type_36 : decode cX11_type 36 = .ok (.ireturn, 1) := by decide +kernel
theorem dX11_type_37 : decode cX11_type 37 = .ok (.aload_n 0, 1) := by decide +kernel
theorem dX11_type_38 : decode cX11_type 38 = .ok (.getfield 30, 3) := by decide +kernel
theorem dX11_type_41 : decode cX11_type 41 = .ok (.iload_n 1, 1) := by decide +kernel
theorem dX11_type_42 : decode cX11_type 42 = .ok (.invokevirtual 82, 3) := by decide +kernel
theorem dX11_type_45 : decode cX11_type 45 = .ok (.aload_n 0, 1) := by decide +kernel
theorem dX11_type_46 : decode cX11_type 46 = .ok (.getfield 30, 3) := by decide +kernel
theorem dX11_type_49 : decode cX11_type 49 = .ok (.getfield 79, 3) := by decide +kernel
theorem dX11_type_52 : decode cX11_type 52 = .ok (.ireturn, 1) := by decide +kernel
theorem dX11_clear_0 : decode cX11_clear 0 = .ok (.aload_n 0, 1) := by decide +kernel
theorem dX11_clear_1 : decode cX11_clear 1 = .ok (.getfield 30, 3) := by decide +kernel
theorem dX11_clear_4 : decode cX11_clear 4 = .ok (.getfield 79, 3) := by decide +kernel
theorem dX11_clear_7 : decode cX11_clear 7 = .ok (.istore_n 1, 1) := by decide +kernel
theorem dX11_clear_8 : decode cX11_clear 8 = .ok (.aload_n 0, 1) := by decide +kernel
theorem dX11_clear_9 : decode cX11_clear 9 = .ok (.getfield 30, 3) := by decide +kernel
theorem dX11_clear_12 : decode cX11_clear 12 = .ok (.iconst 0, 1) := by decide +kernel
theorem dX11_clear_13 : decode cX11_clear 13 = .ok (.putfield 79, 3) := by decide +kernel
theorem dX11_clear_16 : decode cX11_clear 16 = .ok (.iload_n 1, 1) := by decide +kernel
theorem dX11_clear_17 : decode cX11_clear 17 = .ok (.ireturn, 1) := by decide +kernel
theorem dX11_read_0 : decode cX11_read 0 = .ok (.aload_n 0, 1) := by decide +kernel
theorem dX11_read_1 : decode cX11_read 1 = .ok (.getfield 30, 3) := by decide +kernel
theorem dX11_read_4 : decode cX11_read 4 = .ok (.aload_n 0, 1) := by decide +kernel
theorem dX11_read_5 : decode cX11_read 5 = .ok (.getfield 16, 3) := by decide +kernel
theorem dX11_read_8 : decode cX11_read 8 = .ok (.invokevirtual 85, 3) := by decide +kernel
theorem dX11_read_11 : decode cX11_read 11 = .ok (.istore_n 1, 1) := by decide +kernel
theorem dX11_read_12 : decode cX11_read 12 = .ok (.iload_n 1, 1) := by decide +kernel
theorem dX11_read_13 : decode cX11_read 13 = .ok (.ifCond .ge 14, 3) := by decide +kernel
theorem dX11_read_16 : decode cX11_read 16 = .ok (.bipush (-10), 2) := by decide +kernel
theorem dX11_read_18 : decode cX11_read 18 = .ok (.aload_n 0, 1) := by decide +kernel
theorem dX11_read_19 : decode cX11_read 19 = .ok (.getfield 30, 3) := by decide +kernel
theorem dX11_read_22 : decode cX11_read 22 = .ok (.getfield 89, 3) := by decide +kernel
theorem dX11_read_25 : decode cX11_read 25 = .ok (.isub, 1) := by decide +kernel
theorem dX11_read_26 : decode cX11_read 26 = .ok (.ireturn, 1) := by decide +kernel
theorem dX11_read_27 : decode cX11_read 27 = .ok (.aload_n 0, 1) := by decide +kernel
theorem dX11_read_28 : decode cX11_read 28 = .ok (.getfield 10, 3) := by decide +kernel
theorem dX11_read_31 : decode cX11_read 31 = .ok (.aload_n 0, 1) := by decide +kernel
theorem dX11_read_32 : decode cX11_read 32 = .ok (.getfield 16, 3) := by decide +kernel
theorem dX11_read_35 : decode cX11_read 35 = .ok (.invokevirtual 92, 3) := by decide +kernel
theorem dX11_read_38 : decode cX11_read 38 = .ok (.iload_n 1, 1) := by decide +kernel
theorem dX11_read_39 : decode cX11_read 39 = .ok (.ireturn, 1) := by decide +kernel
theorem dX11_call_0 : decode cX11_call 0 = .ok (.aload_n 0, 1) := by decide +kernel
theorem dX11_call_1 : decode cX11_call 1 = .ok (.iload_n 1, 1) := by decide +kernel
theorem dX11_call_2 : decode cX11_call 2 = .ok (.invokevirtual 96, 3) := by decide +kernel
theorem dX11_call_5 : decode cX11_call 5 = .ok (.ifCond .eq 12, 3) := by decide +kernel
theorem dX11_call_8 : decode cX11_call 8 = .ok (.iload_n 2, 1) := by decide +kernel
theorem dX11_call_9 : decode cX11_call 9 = .ok (.bipush 10, 2) := by decide +kernel
theorem dX11_call_11 : decode cX11_call 11 = .ok (.invokestatic 59, 3) := by decide +kernel
theorem dX11_call_14 : decode cX11_call 14 = .ok (.ifCond .ne 10, 3) := by decide +kernel
theorem dX11_call_17 : decode cX11_call 17 = .ok (.aload_n 0, 1) := by decide +kernel
theorem dX11_call_18 : decode cX11_call 18 = .ok (.bipush (-2), 2) := by decide +kernel
theorem dX11_call_20 : decode cX11_call 20 = .ok (.invokevirtual 63, 3) := by decide +kernel
theorem dX11_call_23 : decode cX11_call 23 = .ok (.ireturn, 1) := by decide +kernel
theorem dX11_call_24 : decode cX11_call 24 = .ok (.aload_n 0, 1) := by decide +kernel
theorem dX11_call_25 : decode cX11_call 25 = .ok (.iload_n 1, 1) := by decide +kernel
theorem dX11_call_26 : decode cX11_call 26 = .ok (.iload_n 2, 1) := by decide +kernel
theorem dX11_call_27 : decode cX11_call 27 = .ok (.invokevirtual 100, 3) := by decide +kernel
theorem dX11_call_30 : decode cX11_call 30 = .ok (.istore_n 3, 1) := by decide +kernel
theorem dX11_call_31 : decode cX11_call 31 = .ok (.aload_n 0, 1) := by decide +kernel
theorem dX11_call_32 : decode cX11_call 32 = .ok (.getfield 10, 3) := by decide +kernel
theorem dX11_call_35 : decode cX11_call 35 = .ok (.invokevirtual 104, 3) := by decide +kernel
theorem dX11_call_38 : decode cX11_call 38 = .ok (.aload_n 0, 1) := by decide +kernel
theorem dX11_call_39 : decode cX11_call 39 = .ok (.getfield 10, 3) := by decide +kernel
theorem dX11_call_42 : decode cX11_call 42 = .ok (.getfield 107, 3) := by decide +kernel
theorem dX11_call_45 : decode cX11_call 45 = .ok (.iload_n 1, 1) := by decide +kernel
theorem dX11_call_46 : decode cX11_call 46 = .ok (.iload_n 3, 1) := by decide +kernel
theorem dX11_call_47 : decode cX11_call 47 = .ok (.invokestatic 110, 3) := by decide +kernel
theorem dX11_call_50 : decode cX11_call 50 = .ok (.iload_n 3, 1) := by decide +kernel
theorem dX11_call_51 : decode cX11_call 51 = .ok (.ireturn, 1) := by decide +kernel
theorem dX11_goes_0 : decode cX11_goes 0 = .ok (.aload_n 0, 1) := by decide +kernel
theorem dX11_goes_1 : decode cX11_goes 1 = .ok (.iload_n 1, 1) := by decide +kernel
theorem dX11_goes_2 : decode cX11_goes 2 = .ok (.invokevirtual 96, 3) := by decide +kernel
theorem dX11_goes_5 : decode cX11_goes 5 = .ok (.ifCond .eq 12, 3) := by decide +kernel
theorem dX11_goes_8 : decode cX11_goes 8 = .ok (.iload_n 2, 1) := by decide +kernel
theorem dX11_goes_9 : decode cX11_goes 9 = .ok (.bipush 10, 2) := by decide +kernel
theorem dX11_goes_11 : decode cX11_goes 11 = .ok (.invokestatic 59, 3) := by decide +kernel
theorem dX11_goes_14 : decode cX11_goes 14 = .ok (.ifCond .ne 10, 3) := by decide +kernel
theorem dX11_goes_17 : decode cX11_goes 17 = .ok (.aload_n 0, 1) := by decide +kernel
theorem dX11_goes_18 : decode cX11_goes 18 = .ok (.bipush (-2), 2) := by decide +kernel
theorem dX11_goes_20 : decode cX11_goes 20 = .ok (.invokevirtual 63, 3) := by decide +kernel
theorem dX11_goes_23 : decode cX11_goes 23 = .ok (.ireturn, 1) := by decide +kernel
theorem dX11_goes_24 : decode cX11_goes 24 = .ok (.aload_n 0, 1) := by decide +kernel
theorem dX11_goes_25 : decode cX11_goes 25 = .ok (.getfield 10, 3) := by decide +kernel
theorem dX11_goes_28 : decode cX11_goes 28 = .ok (.getfield 114, 3) := by decide +kernel
theorem dX11_goes_31 : decode cX11_goes 31 = .ok (.iload_n 1, 1) := by decide +kernel
theorem dX11_goes_32 : decode cX11_goes 32 = .ok (.iaload, 1) := by decide +kernel
theorem dX11_goes_33 : decode cX11_goes 33 = .ok (.istore_n 3, 1) := by decide +kernel
theorem dX11_goes_34 : decode cX11_goes 34 = .ok (.aload_n 0, 1) := by decide +kernel
theorem dX11_goes_35 : decode cX11_goes 35 = .ok (.getfield 10, 3) := by decide +kernel
theorem dX11_goes_38 : decode cX11_goes 38 = .ok (.invokevirtual 104, 3) := by decide +kernel
theorem dX11_goes_41 : decode cX11_goes 41 = .ok (.aload_n 0, 1) := by decide +kernel
theorem dX11_goes_42 : decode cX11_goes 42 = .ok (.getfield 10, 3) := by decide +kernel
theorem dX11_goes_45 : decode cX11_goes 45 = .ok (.getfield 114, 3) := by decide +kernel
theorem dX11_goes_48 : decode cX11_goes 48 = .ok (.iload_n 1, 1) := by decide +kernel
theorem dX11_goes_49 : decode cX11_goes 49 = .ok (.iload_n 2, 1) := by decide +kernel
theorem dX11_goes_50 : decode cX11_goes 50 = .ok (.iastore, 1) := by decide +kernel
theorem dX11_goes_51 : decode cX11_goes 51 = .ok (.iload_n 3, 1) := by decide +kernel
theorem dX11_goes_52 : decode cX11_goes 52 = .ok (.ireturn, 1) := by decide +kernel
theorem dX11_day_0 : decode cX11_day 0 = .ok (.aload_n 0, 1) := by decide +kernel
theorem dX11_day_1 : decode cX11_day 1 = .ok (.getfield 10, 3) := by decide +kernel
theorem dX11_day_4 : decode cX11_day 4 = .ok (.invokevirtual 104, 3) := by decide +kernel
theorem dX11_day_7 : decode cX11_day 7 = .ok (.aload_n 0, 1) := by decide +kernel
theorem dX11_day_8 : decode cX11_day 8 = .ok (.getfield 10, 3) := by decide +kernel
theorem dX11_day_11 : decode cX11_day 11 = .ok (.dup, 1) := by decide +kernel
theorem dX11_day_12 : decode cX11_day 12 = .ok (.getfield 117, 3) := by decide +kernel
theorem dX11_day_15 : decode cX11_day 15 = .ok (.iconst 1, 1) := by decide +kernel
theorem dX11_day_16 : decode cX11_day 16 = .ok (.iadd, 1) := by decide +kernel
theorem dX11_day_17 : decode cX11_day 17 = .ok (.putfield 117, 3) := by decide +kernel
theorem dX11_day_20 : decode cX11_day 20 = .ok (.aload_n 0, 1) := by decide +kernel
theorem dX11_day_21 : decode cX11_day 21 = .ok (.getfield 10, 3) := by decide +kernel
theorem dX11_day_24 : decode cX11_day 24 = .ok (.getfield 117, 3) := by decide +kernel
theorem dX11_day_27 : decode cX11_day 27 = .ok (.ireturn, 1) := by decide +kernel
theorem dX11_undo_0 : decode cX11_undo 0 = .ok (.aload_n 0, 1) := by decide +kernel
theorem dX11_undo_1 : decode cX11_undo 1 = .ok (.getfield 10, 3) := by decide +kernel
theorem dX11_undo_4 : decode cX11_undo 4 = .ok (.getfield 120, 3) := by decide +kernel
theorem dX11_undo_7 : decode cX11_undo 7 = .ok (.ifCond .gt 10, 3) := by decide +kernel
theorem dX11_undo_10 : decode cX11_undo 10 = .ok (.aload_n 0, 1) := by decide +kernel
theorem dX11_undo_11 : decode cX11_undo 11 = .ok (.bipush (-3), 2) := by decide +kernel
theorem dX11_undo_13 : decode cX11_undo 13 = .ok (.invokevirtual 63, 3) := by decide +kernel
theorem dX11_undo_16 : decode cX11_undo 16 = .ok (.ireturn, 1) := by decide +kernel
theorem dX11_undo_17 : decode cX11_undo 17 = .ok (.aload_n 0, 1) := by decide +kernel
theorem dX11_undo_18 : decode cX11_undo 18 = .ok (.getfield 10, 3) := by decide +kernel
theorem dX11_undo_21 : decode cX11_undo 21 = .ok (.invokevirtual 123, 3) := by decide +kernel
theorem dX11_undo_24 : decode cX11_undo 24 = .ok (.aload_n 0, 1) := by decide +kernel
theorem dX11_undo_25 : decode cX11_undo 25 = .ok (.getfield 10, 3) := by decide +kernel
theorem dX11_undo_28 : decode cX11_undo 28 = .ok (.getfield 117, 3) := by decide +kernel
theorem dX11_undo_31 : decode cX11_undo 31 = .ok (.ireturn, 1) := by decide +kernel
theorem dX11_of_0 : decode cX11_of 0 = .ok (.aload_n 0, 1) := by decide +kernel
theorem dX11_of_1 : decode cX11_of 1 = .ok (.iload_n 1, 1) := by decide +kernel
theorem dX11_of_2 : decode cX11_of 2 = .ok (.invokevirtual 96, 3) := by decide +kernel
theorem dX11_of_5 : decode cX11_of 5 = .ok (.ifCond .eq 11, 3) := by decide +kernel
theorem dX11_of_8 : decode cX11_of 8 = .ok (.iload_n 2, 1) := by decide +kernel
theorem dX11_of_9 : decode cX11_of 9 = .ok (.iconst 3, 1) := by decide +kernel
theorem dX11_of_10 : decode cX11_of 10 = .ok (.invokestatic 59, 3) := by decide +kernel
theorem dX11_of_13 : decode cX11_of 13 = .ok (.ifCond .ne 13, 3) := by decide +kernel
theorem dX11_of_16 : decode cX11_of 16 = .ok (.aload_n 0, 1) := by decide +kernel
theorem dX11_of_17 : decode cX11_of 17 = .ok (.bipush (-2), 2) := by decide +kernel
theorem dX11_of_19 : decode cX11_of 19 = .ok (.invokevirtual 63, 3) := by decide +kernel
theorem dX11_of_22 : decode cX11_of 22 = .ok (.pop, 1) := by decide +kernel
theorem dX11_of_23 : decode cX11_of 23 = .ok (.bipush (-10), 2) := by decide +kernel
theorem dX11_of_25 : decode cX11_of 25 = .ok (.ireturn, 1) := by decide +kernel
theorem dX11_of_26 : decode cX11_of 26 = .ok (.iload_n 2, 1) := by decide +kernel
theorem dX11_of_27 : decode cX11_of 27 = .ok (.ifCond .ne 13, 3) := by decide +kernel
theorem dX11_of_30 : decode cX11_of 30 = .ok (.aload_n 0, 1) := by decide +kernel
theorem dX11_of_31 : decode cX11_of 31 = .ok (.getfield 10, 3) := by decide +kernel
theorem dX11_of_34 : decode cX11_of 34 = .ok (.getfield 126, 3) := by decide +kernel
theorem dX11_of_37 : decode cX11_of 37 = .ok (.iload_n 1, 1) := by decide +kernel
theorem dX11_of_38 : decode cX11_of 38 = .ok (.iaload, 1) := by decide +kernel
theorem dX11_of_39 : decode cX11_of 39 = .ok (.ireturn, 1) := by decide +kernel
theorem dX11_of_40 : decode cX11_of 40 = .ok (.iload_n 2, 1) := by decide +kernel
theorem dX11_of_41 : decode cX11_of 41 = .ok (.iconst 1, 1) := by decide +kernel
theorem dX11_of_42 : decode cX11_of 42 = .ok (.if_icmp .ne 15, 3) := by decide +kernel
theorem dX11_of_45 : decode cX11_of 45 = .ok (.aload_n 0, 1) := by decide +kernel
theorem dX11_of_46 : decode cX11_of 46 = .ok (.getfield 10, 3) := by decide +kernel
theorem dX11_of_49 : decode cX11_of 49 = .ok (.getfield 114, 3) := by decide +kernel
theorem dX11_of_52 : decode cX11_of 52 = .ok (.iload_n 1, 1) := by decide +kernel
theorem dX11_of_53 : decode cX11_of 53 = .ok (.iaload, 1) := by decide +kernel
theorem dX11_of_54 : decode cX11_of 54 = .ok (.goto 11, 3) := by decide +kernel
theorem dX11_of_57 : decode cX11_of 57 = .ok (.aload_n 0, 1) := by decide +kernel
theorem dX11_of_58 : decode cX11_of 58 = .ok (.getfield 10, 3) := by decide +kernel
theorem dX11_of_61 : decode cX11_of 61 = .ok (.iload_n 1, 1) := by decide +kernel
theorem dX11_of_62 : decode cX11_of 62 = .ok (.invokevirtual 129, 3) := by decide +kernel
theorem dX11_of_65 : decode cX11_of 65 = .ok (.ireturn, 1) := by decide +kernel
theorem dX11_turn_0 : decode cX11_turn 0 = .ok (.aload_n 0, 1) := by decide +kernel
theorem dX11_turn_1 : decode cX11_turn 1 = .ok (.iload_n 1, 1) := by decide +kernel
theorem dX11_turn_2 : decode cX11_turn 2 = .ok (.invokevirtual 96, 3) := by decide +kernel
theorem dX11_turn_5 : decode cX11_turn 5 = .ok (.ifCond .eq 12, 3) := by decide +kernel
theorem dX11_turn_8 : decode cX11_turn 8 = .ok (.iload_n 2, 1) := by decide +kernel
theorem dX11_turn_9 : decode cX11_turn 9 = .ok (.bipush 10, 2) := by decide +kernel
theorem dX11_turn_11 : decode cX11_turn 11 = .ok (.invokestatic 59, 3) := by decide +kernel
theorem dX11_turn_14 : decode cX11_turn 14 = .ok (.ifCond .ne 10, 3) := by decide +kernel
theorem dX11_turn_17 : decode cX11_turn 17 = .ok (.aload_n 0, 1) := by decide +kernel
theorem dX11_turn_18 : decode cX11_turn 18 = .ok (.bipush (-2), 2) := by decide +kernel
theorem dX11_turn_20 : decode cX11_turn 20 = .ok (.invokevirtual 63, 3) := by decide +kernel
theorem dX11_turn_23 : decode cX11_turn 23 = .ok (.ireturn, 1) := by decide +kernel
theorem dX11_turn_24 : decode cX11_turn 24 = .ok (.aload_n 0, 1) := by decide +kernel
theorem dX11_turn_25 : decode cX11_turn 25 = .ok (.iload_n 1, 1) := by decide +kernel
theorem dX11_turn_26 : decode cX11_turn 26 = .ok (.iload_n 2, 1) := by decide +kernel
theorem dX11_turn_27 : decode cX11_turn 27 = .ok (.invokevirtual 100, 3) := by decide +kernel
theorem dX11_turn_30 : decode cX11_turn 30 = .ok (.ireturn, 1) := by decide +kernel
theorem dX11_bearers_0 : decode cX11_bearers 0 = .ok (.aload_n 0, 1) := by decide +kernel
theorem dX11_bearers_1 : decode cX11_bearers 1 = .ok (.iload_n 1, 1) := by decide +kernel
theorem dX11_bearers_2 : decode cX11_bearers 2 = .ok (.invokevirtual 96, 3) := by decide +kernel
theorem dX11_bearers_5 : decode cX11_bearers 5 = .ok (.ifCond .eq 15, 3) := by decide +kernel
theorem dX11_bearers_8 : decode cX11_bearers 8 = .ok (.aload_n 0, 1) := by decide +kernel
theorem dX11_bearers_9 : decode cX11_bearers 9 = .ok (.getfield 10, 3) := by decide +kernel
theorem dX11_bearers_12 : decode cX11_bearers 12 = .ok (.getfield 107, 3) := by decide +kernel
theorem dX11_bearers_15 : decode cX11_bearers 15 = .ok (.iload_n 1, 1) := by decide +kernel
theorem dX11_bearers_16 : decode cX11_bearers 16 = .ok (.iaload, 1) := by decide +kernel
theorem dX11_bearers_17 : decode cX11_bearers 17 = .ok (.goto 9, 3) := by decide +kernel
theorem dX11_bearers_20 : decode cX11_bearers 20 = .ok (.aload_n 0, 1) := by decide +kernel
theorem dX11_bearers_21 : decode cX11_bearers 21 = .ok (.bipush (-2), 2) := by decide +kernel
theorem dX11_bearers_23 : decode cX11_bearers 23 = .ok (.invokevirtual 63, 3) := by decide +kernel
theorem dX11_bearers_26 : decode cX11_bearers 26 = .ok (.ireturn, 1) := by decide +kernel
theorem dX11_names_0 : decode cX11_names 0 = .ok (.iload_n 1, 1) := by decide +kernel
theorem dX11_names_1 : decode cX11_names 1 = .ok (.iconst 2, 1) := by decide +kernel
theorem dX11_names_2 : decode cX11_names 2 = .ok (.invokestatic 59, 3) := by decide +kernel
theorem dX11_names_5 : decode cX11_names 5 = .ok (.ifCond .ne 10, 3) := by decide +kernel
theorem dX11_names_8 : decode cX11_names 8 = .ok (.aload_n 0, 1) := by decide +kernel
theorem dX11_names_9 : decode cX11_names 9 = .ok (.bipush (-2), 2) := by decide +kernel
theorem dX11_names_11 : decode cX11_names 11 = .ok (.invokevirtual 63, 3) := by decide +kernel
theorem dX11_names_14 : decode cX11_names 14 = .ok (.ireturn, 1) := by decide +kernel
theorem dX11_names_15 : decode cX11_names 15 = .ok (.iconst 0, 1) := by decide +kernel
theorem dX11_names_16 : decode cX11_names 16 = .ok (.istore_n 2, 1) := by decide +kernel
theorem dX11_names_17 : decode cX11_names 17 = .ok (.iconst 0, 1) := by decide +kernel
theorem dX11_names_18 : decode cX11_names 18 = .ok (.istore_n 3, 1) := by decide +kernel
theorem dX11_names_19 : decode cX11_names 19 = .ok (.iload_n 3, 1) := by decide +kernel
theorem dX11_names_20 : decode cX11_names 20 = .ok (.aload_n 0, 1) := by decide +kernel
theorem dX11_names_21 : decode cX11_names 21 = .ok (.getfield 10, 3) := by decide +kernel
theorem dX11_names_24 : decode cX11_names 24 = .ok (.getfield 67, 3) := by decide +kernel
theorem dX11_names_27 : decode cX11_names 27 = .ok (.if_icmp .ge 47, 3) := by decide +kernel
theorem dX11_names_30 : decode cX11_names 30 = .ok (.aload_n 0, 1) := by decide +kernel
theorem dX11_names_31 : decode cX11_names 31 = .ok (.getfield 10, 3) := by decide +kernel
theorem dX11_names_34 : decode cX11_names 34 = .ok (.getfield 107, 3) := by decide +kernel
theorem dX11_names_37 : decode cX11_names 37 = .ok (.iload_n 3, 1) := by decide +kernel
theorem dX11_names_38 : decode cX11_names 38 = .ok (.iaload, 1) := by decide +kernel
theorem dX11_names_39 : decode cX11_names 39 = .ok (.invokestatic 132, 3) := by decide +kernel
theorem dX11_names_42 : decode cX11_names 42 = .ok (.istore 4, 2) := by decide +kernel
theorem dX11_names_44 : decode cX11_names 44 = .ok (.iload_n 1, 1) := by decide +kernel
theorem dX11_names_45 : decode cX11_names 45 = .ok (.ifCond .ne 11, 3) := by decide +kernel
theorem dX11_names_48 : decode cX11_names 48 = .ok (.iload 4, 2) := by decide +kernel
theorem dX11_names_50 : decode cX11_names 50 = .ok (.ifCond .ne 18, 3) := by decide +kernel
theorem dX11_names_53 : decode cX11_names 53 = .ok (.goto 9, 3) := by decide +kernel
theorem dX11_names_56 : decode cX11_names 56 = .ok (.iload 4, 2) := by decide +kernel
theorem dX11_names_58 : decode cX11_names 58 = .ok (.iconst 2, 1) := by decide +kernel
theorem dX11_names_59 : decode cX11_names 59 = .ok (.if_icmp .lt 9, 3) := by decide +kernel
theorem dX11_names_62 : decode cX11_names 62 = .ok (.iload_n 2, 1) := by decide +kernel
theorem dX11_names_63 : decode cX11_names 63 = .ok (.iconst 1, 1) := by decide +kernel
theorem dX11_names_64 : decode cX11_names 64 = .ok (.iload_n 3, 1) := by decide +kernel
theorem dX11_names_65 : decode cX11_names 65 = .ok (.ishl, 1) := by decide +kernel
theorem dX11_names_66 : decode cX11_names 66 = .ok (.ior, 1) := by decide +kernel
theorem dX11_names_67 : decode cX11_names 67 = .ok (.istore_n 2, 1) := by decide +kernel
theorem dX11_names_68 : decode cX11_names 68 = .ok (.iinc 3 1, 3) := by decide +kernel
theorem dX11_names_71 : decode cX11_names 71 = .ok (.goto (-52), 3) := by decide +kernel
theorem dX11_names_74 : decode cX11_names 74 = .ok (.iload_n 2, 1) := by decide +kernel
theorem dX11_names_75 : decode cX11_names 75 = .ok (.ireturn, 1) := by decide +kernel
theorem dX11_calls_0 : decode cX11_calls 0 = .ok (.aload_n 0, 1) := by decide +kernel
theorem dX11_calls_1 : decode cX11_calls 1 = .ok (.iload_n 1, 1) := by decide +kernel
theorem dX11_calls_2 : decode cX11_calls 2 = .ok (.invokevirtual 96, 3) := by decide +kernel
theorem dX11_calls_5 : decode cX11_calls 5 = .ok (.ifCond .eq 19, 3) := by decide +kernel
theorem dX11_calls_8 : decode cX11_calls 8 = .ok (.aload_n 0, 1) := by decide +kernel
theorem dX11_calls_9 : decode cX11_calls 9 = .ok (.iload_n 2, 1) := by decide +kernel
theorem dX11_calls_10 : decode cX11_calls 10 = .ok (.invokevirtual 96, 3) := by decide +kernel
theorem dX11_calls_13 : decode cX11_calls 13 = .ok (.ifCond .eq 11, 3) := by decide +kernel
theorem dX11_calls_16 : decode cX11_calls 16 = .ok (.iload_n 3, 1) := by decide +kernel
theorem dX11_calls_17 : decode cX11_calls 17 = .ok (.iconst 2, 1) := by decide +kernel
theorem dX11_calls_18 : decode cX11_calls 18 = .ok (.invokestatic 59, 3) := by decide +kernel
theorem dX11_calls_21 : decode cX11_calls 21 = .ok (.ifCond .ne 10, 3) := by decide +kernel
theorem dX11_calls_24 : decode cX11_calls 24 = .ok (.aload_n 0, 1) := by decide +kernel
theorem dX11_calls_25 : decode cX11_calls 25 = .ok (.bipush (-2), 2) := by decide +kernel
theorem dX11_calls_27 : decode cX11_calls 27 = .ok (.invokevirtual 63, 3) := by decide +kernel
theorem dX11_calls_30 : decode cX11_calls 30 = .ok (.ireturn, 1) := by decide +kernel
theorem dX11_calls_31 : decode cX11_calls 31 = .ok (.aload_n 0, 1) := by decide +kernel
theorem dX11_calls_32 : decode cX11_calls 32 = .ok (.getfield 44, 3) := by decide +kernel
theorem dX11_calls_35 : decode cX11_calls 35 = .ok (.aload_n 0, 1) := by decide +kernel
theorem dX11_calls_36 : decode cX11_calls 36 = .ok (.getfield 10, 3) := by decide +kernel
theorem dX11_calls_39 : decode cX11_calls 39 = .ok (.invokevirtual 137, 3) := by decide +kernel
theorem dX11_calls_42 : decode cX11_calls 42 = .ok (.aload_n 0, 1) := by decide +kernel
theorem dX11_calls_43 : decode cX11_calls 43 = .ok (.getfield 51, 3) := by decide +kernel
theorem dX11_calls_46 : decode cX11_calls 46 = .ok (.aload_n 0, 1) := by decide +kernel
theorem dX11_calls_47 : decode cX11_calls 47 = .ok (.getfield 10, 3) := by decide +kernel
theorem dX11_calls_50 : decode cX11_calls 50 = .ok (.aload_n 0, 1) := by decide +kernel
theorem dX11_calls_51 : decode cX11_calls 51 = .ok (.getfield 44, 3) := by decide +kernel
theorem dX11_calls_54 : decode cX11_calls 54 = .ok (.iload_n 1, 1) := by decide +kernel
theorem dX11_calls_55 : decode cX11_calls 55 = .ok (.iload_n 2, 1) := by decide +kernel
theorem dX11_calls_56 : decode cX11_calls 56 = .ok (.invokevirtual 140, 3) := by decide +kernel
theorem dX11_calls_59 : decode cX11_calls 59 = .ok (.iload_n 3, 1) := by decide +kernel
theorem dX11_calls_60 : decode cX11_calls 60 = .ok (.ifCond .ne 13, 3) := by decide +kernel
theorem dX11_calls_63 : decode cX11_calls 63 = .ok (.aload_n 0, 1) := by decide +kernel
theorem dX11_calls_64 : decode cX11_calls 64 = .ok (.getfield 51, 3) := by decide +kernel
theorem dX11_calls_67 : decode cX11_calls 67 = .ok (.getfield 144, 3) := by decide +kernel
theorem dX11_calls_70 : decode cX11_calls 70 = .ok (.goto 10, 3) := by decide +kernel
theorem dX11_calls_73 : decode cX11_calls 73 = .ok (.aload_n 0, 1) := by decide +kernel
theorem dX11_calls_74 : decode cX11_calls 74 = .ok (.getfield 51, 3) := by decide +kernel
theorem dX11_calls_77 : decode cX11_calls 77 = .ok (.getfield 147, 3) := by decide +kernel
theorem dX11_calls_80 : decode cX11_calls 80 = .ok (.ireturn, 1) := by decide +kernel
theorem dX11_own_0 : decode cX11_own 0 = .ok (.iload_n 1, 1) := by decide +kernel
theorem dX11_own_1 : decode cX11_own 1 = .ok (.iconst 3, 1) := by decide +kernel
theorem dX11_own_2 : decode cX11_own 2 = .ok (.invokestatic 59, 3) := by decide +kernel
theorem dX11_own_5 : decode cX11_own 5 = .ok (.ifCond .ne 10, 3) := by decide +kernel
theorem dX11_own_8 : decode cX11_own 8 = .ok (.aload_n 0, 1) := by decide +kernel
theorem dX11_own_9 : decode cX11_own 9 = .ok (.bipush (-2), 2) := by decide +kernel
theorem dX11_own_11 : decode cX11_own 11 = .ok (.invokevirtual 63, 3) := by decide +kernel
theorem dX11_own_14 : decode cX11_own 14 = .ok (.ireturn, 1) := by decide +kernel
theorem dX11_own_15 : decode cX11_own 15 = .ok (.aload_n 0, 1) := by decide +kernel
theorem dX11_own_16 : decode cX11_own 16 = .ok (.getfield 44, 3) := by decide +kernel
theorem dX11_own_19 : decode cX11_own 19 = .ok (.aload_n 0, 1) := by decide +kernel
theorem dX11_own_20 : decode cX11_own 20 = .ok (.getfield 10, 3) := by decide +kernel
theorem dX11_own_23 : decode cX11_own 23 = .ok (.invokevirtual 137, 3) := by decide +kernel
theorem dX11_own_26 : decode cX11_own 26 = .ok (.aload_n 0, 1) := by decide +kernel
theorem dX11_own_27 : decode cX11_own 27 = .ok (.getfield 51, 3) := by decide +kernel
theorem dX11_own_30 : decode cX11_own 30 = .ok (.aload_n 0, 1) := by decide +kernel
theorem dX11_own_31 : decode cX11_own 31 = .ok (.getfield 10, 3) := by decide +kernel
theorem dX11_own_34 : decode cX11_own 34 = .ok (.aload_n 0, 1) := by decide +kernel
theorem dX11_own_35 : decode cX11_own 35 = .ok (.getfield 44, 3) := by decide +kernel
theorem dX11_own_38 : decode cX11_own 38 = .ok (.invokevirtual 150, 3) := by decide +kernel
theorem dX11_own_41 : decode cX11_own 41 = .ok (.iload_n 1, 1) := by decide +kernel
theorem dX11_own_42 : decode cX11_own 42 = .ok (.ifCond .ne 11, 3) := by decide +kernel
theorem dX11_own_45 : decode cX11_own 45 = .ok (.aload_n 0, 1) := by decide +kernel
theorem dX11_own_46 : decode cX11_own 46 = .ok (.getfield 51, 3) := by decide +kernel
theorem dX11_own_49 : decode cX11_own 49 = .ok (.getfield 144, 3) := by decide +kernel
theorem dX11_own_52 : decode cX11_own 52 = .ok (.ireturn, 1) := by decide +kernel
theorem dX11_own_53 : decode cX11_own 53 = .ok (.iload_n 1, 1) := by decide +kernel
theorem dX11_own_54 : decode cX11_own 54 = .ok (.iconst 1, 1) := by decide +kernel
theorem dX11_own_55 : decode cX11_own 55 = .ok (.if_icmp .ne 13, 3) := by decide +kernel
theorem dX11_own_58 : decode cX11_own 58 = .ok (.aload_n 0, 1) := by decide +kernel
theorem dX11_own_59 : decode cX11_own 59 = .ok (.getfield 51, 3) := by decide +kernel
theorem dX11_own_62 : decode cX11_own 62 = .ok (.getfield 154, 3) := by decide +kernel
theorem dX11_own_65 : decode cX11_own 65 = .ok (.goto 10, 3) := by decide +kernel
theorem dX11_own_68 : decode cX11_own 68 = .ok (.aload_n 0, 1) := by decide +kernel
theorem dX11_own_69 : decode cX11_own 69 = .ok (.getfield 51, 3) := by decide +kernel
theorem dX11_own_72 : decode cX11_own 72 = .ok (.getfield 147, 3) := by decide +kernel
theorem dX11_own_75 : decode cX11_own 75 = .ok (.ireturn, 1) := by decide +kernel
theorem dX11_ring_0 : decode cX11_ring 0 = .ok (.aload_n 0, 1) := by decide +kernel
theorem dX11_ring_1 : decode cX11_ring 1 = .ok (.iload_n 1, 1) := by decide +kernel
theorem dX11_ring_2 : decode cX11_ring 2 = .ok (.invokevirtual 96, 3) := by decide +kernel
theorem dX11_ring_5 : decode cX11_ring 5 = .ok (.ifCond .ne 10, 3) := by decide +kernel
theorem dX11_ring_8 : decode cX11_ring 8 = .ok (.aload_n 0, 1) := by decide +kernel
theorem dX11_ring_9 : decode cX11_ring 9 = .ok (.bipush (-2), 2) := by decide +kernel
theorem dX11_ring_11 : decode cX11_ring 11 = .ok (.invokevirtual 63, 3) := by decide +kernel
theorem dX11_ring_14 : decode cX11_ring 14 = .ok (.ireturn, 1) := by decide +kernel
theorem dX11_ring_15 : decode cX11_ring 15 = .ok (.iload_n 1, 1) := by decide +kernel
theorem dX11_ring_16 : decode cX11_ring 16 = .ok (.istore_n 2, 1) := by decide +kernel
theorem dX11_ring_17 : decode cX11_ring 17 = .ok (.iconst 1, 1) := by decide +kernel
theorem dX11_ring_18 : decode cX11_ring 18 = .ok (.istore_n 3, 1) := by decide +kernel
theorem dX11_ring_19 : decode cX11_ring 19 = .ok (.iload_n 3, 1) := by decide +kernel
theorem dX11_ring_20 : decode cX11_ring 20 = .ok (.aload_n 0, 1) := by decide +kernel
theorem dX11_ring_21 : decode cX11_ring 21 = .ok (.getfield 10, 3) := by decide +kernel
theorem dX11_ring_24 : decode cX11_ring 24 = .ok (.getfield 67, 3) := by decide +kernel
theorem dX11_ring_27 : decode cX11_ring 27 = .ok (.if_icmp .gt 32, 3) := by decide +kernel
theorem dX11_ring_30 : decode cX11_ring 30 = .ok (.aload_n 0, 1) := by decide +kernel
theorem dX11_ring_31 : decode cX11_ring 31 = .ok (.getfield 10, 3) := by decide +kernel
theorem dX11_ring_34 : decode cX11_ring 34 = .ok (.iload_n 2, 1) := by decide +kernel
theorem dX11_ring_35 : decode cX11_ring 35 = .ok (.invokevirtual 129, 3) := by decide +kernel
theorem dX11_ring_38 : decode cX11_ring 38 = .ok (.istore_n 2, 1) := by decide +kernel
theorem dX11_ring_39 : decode cX11_ring 39 = .ok (.iload_n 2, 1) := by decide +kernel
theorem dX11_ring_40 : decode cX11_ring 40 = .ok (.iload_n 1, 1) := by decide +kernel
theorem dX11_ring_41 : decode cX11_ring 41 = .ok (.if_icmp .ne 5, 3) := by decide +kernel
theorem dX11_ring_44 : decode cX11_ring 44 = .ok (.iload_n 3, 1) := by decide +kernel
theorem dX11_ring_45 : decode cX11_ring 45 = .ok (.ireturn, 1) := by decide +kernel
theorem dX11_ring_46 : decode cX11_ring 46 = .ok (.iload_n 2, 1) := by decide +kernel
theorem dX11_ring_47 : decode cX11_ring 47 = .ok (.iconst (-1), 1) := by decide +kernel
theorem dX11_ring_48 : decode cX11_ring 48 = .ok (.if_icmp .ne 5, 3) := by decide +kernel
theorem dX11_ring_51 : decode cX11_ring 51 = .ok (.iconst 0, 1) := by decide +kernel
theorem dX11_ring_52 : decode cX11_ring 52 = .ok (.ireturn, 1) := by decide +kernel
theorem dX11_ring_53 : decode cX11_ring 53 = .ok (.iinc 3 1, 3) := by decide +kernel
theorem dX11_ring_56 : decode cX11_ring 56 = .ok (.goto (-37), 3) := by decide +kernel
theorem dX11_ring_59 : decode cX11_ring 59 = .ok (.iconst 0, 1) := by decide +kernel
theorem dX11_ring_60 : decode cX11_ring 60 = .ok (.ireturn, 1) := by decide +kernel
theorem dX11_deed_0 : decode cX11_deed 0 = .ok (.aload_n 0, 1) := by decide +kernel
theorem dX11_deed_1 : decode cX11_deed 1 = .ok (.iload_n 1, 1) := by decide +kernel
theorem dX11_deed_2 : decode cX11_deed 2 = .ok (.invokevirtual 96, 3) := by decide +kernel
theorem dX11_deed_5 : decode cX11_deed 5 = .ok (.ifCond .eq 14, 3) := by decide +kernel
theorem dX11_deed_8 : decode cX11_deed 8 = .ok (.iload_n 2, 1) := by decide +kernel
theorem dX11_deed_9 : decode cX11_deed 9 = .ok (.iconst 1, 1) := by decide +kernel
theorem dX11_deed_10 : decode cX11_deed 10 = .ok (.if_icmp .lt 9, 3) := by decide +kernel
theorem dX11_deed_13 : decode cX11_deed 13 = .ok (.iload_n 2, 1) := by decide +kernel
theorem dX11_deed_14 : decode cX11_deed 14 = .ok (.bipush 60, 2) := by decide +kernel
theorem dX11_deed_16 : decode cX11_deed 16 = .ok (.if_icmp .le 10, 3) := by decide +kernel
theorem dX11_deed_19 : decode cX11_deed 19 = .ok (.aload_n 0, 1) := by decide +kernel
theorem dX11_deed_20 : decode cX11_deed 20 = .ok (.bipush (-2), 2) := by decide +kernel
theorem dX11_deed_22 : decode cX11_deed 22 = .ok (.invokevirtual 63, 3) := by decide +kernel
theorem dX11_deed_25 : decode cX11_deed 25 = .ok (.ireturn, 1) := by decide +kernel
theorem dX11_deed_26 : decode cX11_deed 26 = .ok (.aload_n 0, 1) := by decide +kernel
theorem dX11_deed_27 : decode cX11_deed 27 = .ok (.getfield 10, 3) := by decide +kernel
theorem dX11_deed_30 : decode cX11_deed 30 = .ok (.getfield 157, 3) := by decide +kernel
theorem dX11_deed_33 : decode cX11_deed 33 = .ok (.bipush 6, 2) := by decide +kernel
theorem dX11_deed_35 : decode cX11_deed 35 = .ok (.if_icmp .lt 10, 3) := by decide +kernel
theorem dX11_deed_38 : decode cX11_deed 38 = .ok (.aload_n 0, 1) := by decide +kernel
theorem dX11_deed_39 : decode cX11_deed 39 = .ok (.bipush (-4), 2) := by decide +kernel
theorem dX11_deed_41 : decode cX11_deed 41 = .ok (.invokevirtual 63, 3) := by decide +kernel
theorem dX11_deed_44 : decode cX11_deed 44 = .ok (.ireturn, 1) := by decide +kernel
theorem dX11_deed_45 : decode cX11_deed 45 = .ok (.aload_n 0, 1) := by decide +kernel
theorem dX11_deed_46 : decode cX11_deed 46 = .ok (.getfield 10, 3) := by decide +kernel
theorem dX11_deed_49 : decode cX11_deed 49 = .ok (.getfield 160, 3) := by decide +kernel
theorem dX11_deed_52 : decode cX11_deed 52 = .ok (.aload_n 0, 1) := by decide +kernel
theorem dX11_deed_53 : decode cX11_deed 53 = .ok (.getfield 10, 3) := by decide +kernel
theorem dX11_deed_56 : decode cX11_deed 56 = .ok (.getfield 157, 3) := by decide +kernel
theorem dX11_deed_59 : decode cX11_deed 59 = .ok (.iload_n 1, 1) := by decide +kernel
theorem dX11_deed_60 : decode cX11_deed 60 = .ok (.iastore, 1) := by decide +kernel
theorem dX11_deed_61 : decode cX11_deed 61 = .ok (.aload_n 0, 1) := by decide +kernel
theorem dX11_deed_62 : decode cX11_deed 62 = .ok (.getfield 10, 3) := by decide +kernel
theorem dX11_deed_65 : decode cX11_deed 65 = .ok (.getfield 163, 3) := by decide +kernel
theorem dX11_deed_68 : decode cX11_deed 68 = .ok (.aload_n 0, 1) := by decide +kernel
theorem dX11_deed_69 : decode cX11_deed 69 = .ok (.getfield 10, 3) := by decide +kernel
theorem dX11_deed_72 : decode cX11_deed 72 = .ok (.getfield 157, 3) := by decide +kernel
theorem dX11_deed_75 : decode cX11_deed 75 = .ok (.iload_n 2, 1) := by decide +kernel
theorem dX11_deed_76 : decode cX11_deed 76 = .ok (.iastore, 1) := by decide +kernel
theorem dX11_deed_77 : decode cX11_deed 77 = .ok (.aload_n 0, 1) := by decide +kernel
theorem dX11_deed_78 : decode cX11_deed 78 = .ok (.getfield 10, 3) := by decide +kernel
theorem dX11_deed_81 : decode cX11_deed 81 = .ok (.dup, 1) := by decide +kernel
theorem dX11_deed_82 : decode cX11_deed 82 = .ok (.getfield 157, 3) := by decide +kernel
theorem dX11_deed_85 : decode cX11_deed 85 = .ok (.iconst 1, 1) := by decide +kernel
theorem dX11_deed_86 : decode cX11_deed 86 = .ok (.iadd, 1) := by decide +kernel
theorem dX11_deed_87 : decode cX11_deed 87 = .ok (.putfield 157, 3) := by decide +kernel
theorem dX11_deed_90 : decode cX11_deed 90 = .ok (.aload_n 0, 1) := by decide +kernel
theorem dX11_deed_91 : decode cX11_deed 91 = .ok (.getfield 10, 3) := by decide +kernel
theorem dX11_deed_94 : decode cX11_deed 94 = .ok (.getfield 157, 3) := by decide +kernel
theorem dX11_deed_97 : decode cX11_deed 97 = .ok (.ireturn, 1) := by decide +kernel
theorem dX11_owes_0 : decode cX11_owes 0 = .ok (.aload_n 0, 1) := by decide +kernel
theorem dX11_owes_1 : decode cX11_owes 1 = .ok (.iload_n 1, 1) := by decide +kernel
theorem dX11_owes_2 : decode cX11_owes 2 = .ok (.invokevirtual 96, 3) := by decide +kernel
theorem dX11_owes_5 : decode cX11_owes 5 = .ok (.ifCond .ne 10, 3) := by decide +kernel
theorem dX11_owes_8 : decode cX11_owes 8 = .ok (.aload_n 0, 1) := by decide +kernel
theorem dX11_owes_9 : decode cX11_owes 9 = .ok (.bipush (-2), 2) := by decide +kernel
theorem dX11_owes_11 : decode cX11_owes 11 = .ok (.invokevirtual 63, 3) := by decide +kernel
theorem dX11_owes_14 : decode cX11_owes 14 = .ok (.ireturn, 1) := by decide +kernel
theorem dX11_owes_15 : decode cX11_owes 15 = .ok (.aload_n 0, 1) := by decide +kernel
theorem dX11_owes_16 : decode cX11_owes 16 = .ok (.getfield 10, 3) := by decide +kernel
theorem dX11_owes_19 : decode cX11_owes 19 = .ok (.iload_n 1, 1) := by decide +kernel
theorem dX11_owes_20 : decode cX11_owes 20 = .ok (.invokevirtual 129, 3) := by decide +kernel
theorem dX11_owes_23 : decode cX11_owes 23 = .ok (.istore_n 2, 1) := by decide +kernel
theorem dX11_owes_24 : decode cX11_owes 24 = .ok (.iload_n 2, 1) := by decide +kernel
theorem dX11_owes_25 : decode cX11_owes 25 = .ok (.iconst (-1), 1) := by decide +kernel
theorem dX11_owes_26 : decode cX11_owes 26 = .ok (.if_icmp .ne 15, 3) := by decide +kernel
theorem dX11_owes_29 : decode cX11_owes 29 = .ok (.aload_n 0, 1) := by decide +kernel
theorem dX11_owes_30 : decode cX11_owes 30 = .ok (.getfield 37, 3) := by decide +kernel
theorem dX11_owes_33 : decode cX11_owes 33 = .ok (.lconst 0, 1) := by decide +kernel
theorem dX11_owes_34 : decode cX11_owes 34 = .ok (.lconst 1, 1) := by decide +kernel
theorem dX11_owes_35 : decode cX11_owes 35 = .ok (.invokevirtual 166, 3) := by decide +kernel
theorem dX11_owes_38 : decode cX11_owes 38 = .ok (.goto 32, 3) := by decide +kernel
theorem dX11_owes_41 : decode cX11_owes 41 = .ok (.aload_n 0, 1) := by decide +kernel
theorem dX11_owes_42 : decode cX11_owes 42 = .ok (.getfield 37, 3) := by decide +kernel
theorem dX11_owes_45 : decode cX11_owes 45 = .ok (.aload_n 0, 1) := by decide +kernel
theorem dX11_owes_46 : decode cX11_owes 46 = .ok (.getfield 10, 3) := by decide +kernel
theorem dX11_owes_49 : decode cX11_owes 49 = .ok (.iload_n 2, 1) := by decide +kernel
theorem dX11_owes_50 : decode cX11_owes 50 = .ok (.invokevirtual 170, 3) := by decide +kernel
theorem dX11_owes_53 : decode cX11_owes 53 = .ok (.i2l, 1) := by decide +kernel
theorem dX11_owes_54 : decode cX11_owes 54 = .ok (.aload_n 0, 1) := by decide +kernel
theorem dX11_owes_55 : decode cX11_owes 55 = .ok (.getfield 10, 3) := by decide +kernel
theorem dX11_owes_58 : decode cX11_owes 58 = .ok (.getfield 107, 3) := by decide +kernel
theorem dX11_owes_61 : decode cX11_owes 61 = .ok (.iload_n 2, 1) := by decide +kernel
theorem dX11_owes_62 : decode cX11_owes 62 = .ok (.iaload, 1) := by decide +kernel
theorem dX11_owes_63 : decode cX11_owes 63 = .ok (.invokestatic 132, 3) := by decide +kernel
theorem dX11_owes_66 : decode cX11_owes 66 = .ok (.i2l, 1) := by decide +kernel
theorem dX11_owes_67 : decode cX11_owes 67 = .ok (.invokevirtual 166, 3) := by decide +kernel
theorem dX11_owes_70 : decode cX11_owes 70 = .ok (.iconst 1, 1) := by decide +kernel
theorem dX11_owes_71 : decode cX11_owes 71 = .ok (.ireturn, 1) := by decide +kernel
theorem dX11_unpaid_0 : decode cX11_unpaid 0 = .ok (.iconst 0, 1) := by decide +kernel
theorem dX11_unpaid_1 : decode cX11_unpaid 1 = .ok (.istore_n 1, 1) := by decide +kernel
theorem dX11_unpaid_2 : decode cX11_unpaid 2 = .ok (.iconst 0, 1) := by decide +kernel
theorem dX11_unpaid_3 : decode cX11_unpaid 3 = .ok (.istore_n 2, 1) := by decide +kernel
theorem dX11_unpaid_4 : decode cX11_unpaid 4 = .ok (.iload_n 2, 1) := by decide +kernel
theorem dX11_unpaid_5 : decode cX11_unpaid 5 = .ok (.aload_n 0, 1) := by decide +kernel
theorem dX11_unpaid_6 : decode cX11_unpaid 6 = .ok (.getfield 10, 3) := by decide +kernel
theorem dX11_unpaid_9 : decode cX11_unpaid 9 = .ok (.getfield 67, 3) := by decide +kernel
theorem dX11_unpaid_12 : decode cX11_unpaid 12 = .ok (.if_icmp .ge 32, 3) := by decide +kernel
theorem dX11_unpaid_15 : decode cX11_unpaid 15 = .ok (.aload_n 0, 1) := by decide +kernel
theorem dX11_unpaid_16 : decode cX11_unpaid 16 = .ok (.getfield 10, 3) := by decide +kernel
theorem dX11_unpaid_19 : decode cX11_unpaid 19 = .ok (.getfield 107, 3) := by decide +kernel
theorem dX11_unpaid_22 : decode cX11_unpaid 22 = .ok (.iload_n 2, 1) := by decide +kernel
theorem dX11_unpaid_23 : decode cX11_unpaid 23 = .ok (.iaload, 1) := by decide +kernel
theorem dX11_unpaid_24 : decode cX11_unpaid 24 = .ok (.ifCond .ne 14, 3) := by decide +kernel
theorem dX11_unpaid_27 : decode cX11_unpaid 27 = .ok (.iload_n 1, 1) := by decide +kernel
theorem dX11_unpaid_28 : decode cX11_unpaid 28 = .ok (.aload_n 0, 1) := by decide +kernel
theorem dX11_unpaid_29 : decode cX11_unpaid 29 = .ok (.getfield 10, 3) := by decide +kernel
theorem dX11_unpaid_32 : decode cX11_unpaid 32 = .ok (.iload_n 2, 1) := by decide +kernel
theorem dX11_unpaid_33 : decode cX11_unpaid 33 = .ok (.invokevirtual 170, 3) := by decide +kernel
theorem dX11_unpaid_36 : decode cX11_unpaid 36 = .ok (.iadd, 1) := by decide +kernel
theorem dX11_unpaid_37 : decode cX11_unpaid 37 = .ok (.istore_n 1, 1) := by decide +kernel
theorem dX11_unpaid_38 : decode cX11_unpaid 38 = .ok (.iinc 2 1, 3) := by decide +kernel
theorem dX11_unpaid_41 : decode cX11_unpaid 41 = .ok (.goto (-37), 3) := by decide +kernel
theorem dX11_unpaid_44 : decode cX11_unpaid 44 = .ok (.iload_n 1, 1) := by decide +kernel
theorem dX11_unpaid_45 : decode cX11_unpaid 45 = .ok (.ireturn, 1) := by decide +kernel
theorem dX11_ears_0 : decode cX11_ears 0 = .ok (.aload_n 0, 1) := by decide +kernel
theorem dX11_ears_1 : decode cX11_ears 1 = .ok (.iload_n 1, 1) := by decide +kernel
theorem dX11_ears_2 : decode cX11_ears 2 = .ok (.invokevirtual 96, 3) := by decide +kernel
theorem dX11_ears_5 : decode cX11_ears 5 = .ok (.ifCond .eq 34, 3) := by decide +kernel
theorem dX11_ears_8 : decode cX11_ears 8 = .ok (.aload_n 0, 1) := by decide +kernel
theorem dX11_ears_9 : decode cX11_ears 9 = .ok (.iload_n 2, 1) := by decide +kernel
theorem dX11_ears_10 : decode cX11_ears 10 = .ok (.invokevirtual 96, 3) := by decide +kernel
theorem dX11_ears_13 : decode cX11_ears 13 = .ok (.ifCond .eq 26, 3) := by decide +kernel
theorem dX11_ears_16 : decode cX11_ears 16 = .ok (.iload_n 1, 1) := by decide +kernel
theorem dX11_ears_17 : decode cX11_ears 17 = .ok (.iload_n 2, 1) := by decide +kernel
theorem dX11_ears_18 : decode cX11_ears 18 = .ok (.if_icmp .eq 21, 3) := by decide +kernel
theorem dX11_ears_21 : decode cX11_ears 21 = .ok (.aload_n 0, 1) := by decide +kernel
theorem dX11_ears_22 : decode cX11_ears 22 = .ok (.iload_n 3, 1) := by decide +kernel
theorem dX11_ears_23 : decode cX11_ears 23 = .ok (.invokevirtual 96, 3) := by decide +kernel
theorem dX11_ears_26 : decode cX11_ears 26 = .ok (.ifCond .eq 13, 3) := by decide +kernel
theorem dX11_ears_29 : decode cX11_ears 29 = .ok (.iload 4, 2) := by decide +kernel
theorem dX11_ears_31 : decode cX11_ears 31 = .ok (.bipush 10, 2) := by decide +kernel
theorem dX11_ears_33 : decode cX11_ears 33 = .ok (.invokestatic 59, 3) := by decide +kernel
theorem dX11_ears_36 : decode cX11_ears 36 = .ok (.ifCond .ne 10, 3) := by decide +kernel
theorem dX11_ears_39 : decode cX11_ears 39 = .ok (.aload_n 0, 1) := by decide +kernel
theorem dX11_ears_40 : decode cX11_ears 40 = .ok (.bipush (-2), 2) := by decide +kernel
theorem dX11_ears_42 : decode cX11_ears 42 = .ok (.invokevirtual 63, 3) := by decide +kernel
theorem dX11_ears_45 : decode cX11_ears 45 = .ok (.ireturn, 1) := by decide +kernel
theorem dX11_ears_46 : decode cX11_ears 46 = .ok (.aload_n 0, 1) := by decide +kernel
theorem dX11_ears_47 : decode cX11_ears 47 = .ok (.iload_n 3, 1) := by decide +kernel
theorem dX11_ears_48 : decode cX11_ears 48 = .ok (.iload 4, 2) := by decide +kernel
theorem dX11_ears_50 : decode cX11_ears 50 = .ok (.invokevirtual 100, 3) := by decide +kernel
theorem dX11_ears_53 : decode cX11_ears 53 = .ok (.istore 5, 2) := by decide +kernel
theorem dX11_ears_55 : decode cX11_ears 55 = .ok (.aload_n 0, 1) := by decide +kernel
theorem dX11_ears_56 : decode cX11_ears 56 = .ok (.getfield 10, 3) := by decide +kernel
theorem dX11_ears_59 : decode cX11_ears 59 = .ok (.getfield 107, 3) := by decide +kernel
theorem dX11_ears_62 : decode cX11_ears 62 = .ok (.iload_n 3, 1) := by decide +kernel
theorem dX11_ears_63 : decode cX11_ears 63 = .ok (.iaload, 1) := by decide +kernel
theorem dX11_ears_64 : decode cX11_ears 64 = .ok (.istore 6, 2) := by decide +kernel
theorem dX11_ears_66 : decode cX11_ears 66 = .ok (.iconst 0, 1) := by decide +kernel
theorem dX11_ears_67 : decode cX11_ears 67 = .ok (.istore 7, 2) := by decide +kernel
theorem dX11_ears_69 : decode cX11_ears 69 = .ok (.iconst 0, 1) := by decide +kernel
theorem dX11_ears_70 : decode cX11_ears 70 = .ok (.istore 8, 2) := by decide +kernel
theorem dX11_ears_72 : decode cX11_ears 72 = .ok (.iload 8, 2) := by decide +kernel
theorem dX11_ears_74 : decode cX11_ears 74 = .ok (.iconst 4, 1) := by decide +kernel
theorem dX11_ears_75 : decode cX11_ears 75 = .ok (.if_icmp .ge 109, 3) := by decide +kernel
theorem dX11_ears_78 : decode cX11_ears 78 = .ok (.iload 6, 2) := by decide +kernel
theorem dX11_ears_80 : decode cX11_ears 80 = .ok (.iload 5, 2) := by decide +kernel
theorem dX11_ears_82 : decode cX11_ears 82 = .ok (.iload 8, 2) := by decide +kernel
theorem dX11_ears_84 : decode cX11_ears 84 = .ok (.iload_n 1, 1) := by decide +kernel
theorem dX11_ears_85 : decode cX11_ears 85 = .ok (.iload_n 2, 1) := by decide +kernel
theorem dX11_ears_86 : decode cX11_ears 86 = .ok (.invokestatic 173, 3) := by decide +kernel
theorem dX11_ears_89 : decode cX11_ears 89 = .ok (.iconst (-1), 1) := by decide +kernel
theorem dX11_ears_90 : decode cX11_ears 90 = .ok (.ixor, 1) := by decide +kernel
theorem dX11_ears_91 : decode cX11_ears 91 = .ok (.iand, 1) := by decide +kernel
theorem dX11_ears_92 : decode cX11_ears 92 = .ok (.invokestatic 177, 3) := by decide +kernel
theorem dX11_ears_95 : decode cX11_ears 95 = .ok (.istore 9, 2) := by decide +kernel
theorem dX11_ears_97 : decode cX11_ears 97 = .ok (.iload 6, 2) := by decide +kernel
theorem dX11_ears_99 : decode cX11_ears 99 = .ok (.iload 5, 2) := by decide +kernel
theorem dX11_ears_101 : decode cX11_ears 101 = .ok (.iload 8, 2) := by decide +kernel
theorem dX11_ears_103 : decode cX11_ears 103 = .ok (.iconst 1, 1) := by decide +kernel
theorem dX11_ears_104 : decode cX11_ears 104 = .ok (.ixor, 1) := by decide +kernel
theorem dX11_ears_105 : decode cX11_ears 105 = .ok (.iload_n 1, 1) := by decide +kernel
theorem dX11_ears_106 : decode cX11_ears 106 = .ok (.iload_n 2, 1) := by decide +kernel
theorem dX11_ears_107 : decode cX11_ears 107 = .ok (.invokestatic 173, 3) := by decide +kernel
theorem dX11_ears_110 : decode cX11_ears 110 = .ok (.iconst (-1), 1) := by decide +kernel
theorem dX11_ears_111 : decode cX11_ears 111 = .ok (.ixor, 1) := by decide +kernel
theorem dX11_ears_112 : decode cX11_ears 112 = .ok (.iand, 1) := by decide +kernel
theorem dX11_ears_113 : decode cX11_ears 113 = .ok (.invokestatic 177, 3) := by decide +kernel
theorem dX11_ears_116 : decode cX11_ears 116 = .ok (.istore 10, 2) := by decide +kernel
theorem dX11_ears_118 : decode cX11_ears 118 = .ok (.iload 6, 2) := by decide +kernel
theorem dX11_ears_120 : decode cX11_ears 120 = .ok (.iload 5, 2) := by decide +kernel
theorem dX11_ears_122 : decode cX11_ears 122 = .ok (.iload 8, 2) := by decide +kernel
theorem dX11_ears_124 : decode cX11_ears 124 = .ok (.iconst 2, 1) := by decide +kernel
theorem dX11_ears_125 : decode cX11_ears 125 = .ok (.ixor, 1) := by decide +kernel
theorem dX11_ears_126 : decode cX11_ears 126 = .ok (.iload_n 1, 1) := by decide +kernel
theorem dX11_ears_127 : decode cX11_ears 127 = .ok (.iload_n 2, 1) := by decide +kernel
theorem dX11_ears_128 : decode cX11_ears 128 = .ok (.invokestatic 173, 3) := by decide +kernel
theorem dX11_ears_131 : decode cX11_ears 131 = .ok (.iconst (-1), 1) := by decide +kernel
theorem dX11_ears_132 : decode cX11_ears 132 = .ok (.ixor, 1) := by decide +kernel
theorem dX11_ears_133 : decode cX11_ears 133 = .ok (.iand, 1) := by decide +kernel
theorem dX11_ears_134 : decode cX11_ears 134 = .ok (.invokestatic 177, 3) := by decide +kernel
theorem dX11_ears_137 : decode cX11_ears 137 = .ok (.istore 11, 2) := by decide +kernel
theorem dX11_ears_139 : decode cX11_ears 139 = .ok (.iload 10, 2) := by decide +kernel
theorem dX11_ears_141 : decode cX11_ears 141 = .ok (.iload_n 1, 1) := by decide +kernel
theorem dX11_ears_142 : decode cX11_ears 142 = .ok (.invokestatic 180, 3) := by decide +kernel
theorem dX11_ears_145 : decode cX11_ears 145 = .ok (.iload 9, 2) := by decide +kernel
theorem dX11_ears_147 : decode cX11_ears 147 = .ok (.iload_n 1, 1) := by decide +kernel
theorem dX11_ears_148 : decode cX11_ears 148 = .ok (.invokestatic 180, 3) := by decide +kernel
theorem dX11_ears_151 : decode cX11_ears 151 = .ok (.if_icmp .gt 27, 3) := by decide +kernel
theorem dX11_ears_154 : decode cX11_ears 154 = .ok (.iload 11, 2) := by decide +kernel
theorem dX11_ears_156 : decode cX11_ears 156 = .ok (.iload_n 2, 1) := by decide +kernel
theorem dX11_ears_157 : decode cX11_ears 157 = .ok (.invokestatic 180, 3) := by decide +kernel
theorem dX11_ears_160 : decode cX11_ears 160 = .ok (.iload 9, 2) := by decide +kernel
theorem dX11_ears_162 : decode cX11_ears 162 = .ok (.iload_n 2, 1) := by decide +kernel
theorem dX11_ears_163 : decode cX11_ears 163 = .ok (.invokestatic 180, 3) := by decide +kernel
theorem dX11_ears_166 : decode cX11_ears 166 = .ok (.if_icmp .gt 12, 3) := by decide +kernel
theorem dX11_ears_169 : decode cX11_ears 169 = .ok (.iload 7, 2) := by decide +kernel
theorem dX11_ears_171 : decode cX11_ears 171 = .ok (.iconst 1, 1) := by decide +kernel
theorem dX11_ears_172 : decode cX11_ears 172 = .ok (.iload 8, 2) := by decide +kernel
theorem dX11_ears_174 : decode cX11_ears 174 = .ok (.ishl, 1) := by decide +kernel
theorem dX11_ears_175 : decode cX11_ears 175 = .ok (.ior, 1) := by decide +kernel
theorem dX11_ears_176 : decode cX11_ears 176 = .ok (.istore 7, 2) := by decide +kernel
theorem dX11_ears_178 : decode cX11_ears 178 = .ok (.iinc 8 1, 3) := by decide +kernel
theorem dX11_ears_181 : decode cX11_ears 181 = .ok (.goto (-109), 3) := by decide +kernel
theorem dX11_ears_184 : decode cX11_ears 184 = .ok (.iload 7, 2) := by decide +kernel
theorem dX11_ears_186 : decode cX11_ears 186 = .ok (.ireturn, 1) := by decide +kernel
theorem dX11_note_0 : decode cX11_note 0 = .ok (.aload_n 0, 1) := by decide +kernel
theorem dX11_note_1 : decode cX11_note 1 = .ok (.iload_n 1, 1) := by decide +kernel
theorem dX11_note_2 : decode cX11_note 2 = .ok (.invokevirtual 96, 3) := by decide +kernel
theorem dX11_note_5 : decode cX11_note 5 = .ok (.ifCond .eq 39, 3) := by decide +kernel
theorem dX11_note_8 : decode cX11_note 8 = .ok (.iload_n 2, 1) := by decide +kernel
theorem dX11_note_9 : decode cX11_note 9 = .ok (.bipush 10, 2) := by decide +kernel
theorem dX11_note_11 : decode cX11_note 11 = .ok (.invokestatic 59, 3) := by decide +kernel
theorem dX11_note_14 : decode cX11_note 14 = .ok (.ifCond .eq 30, 3) := by decide +kernel
theorem dX11_note_17 : decode cX11_note 17 = .ok (.iload_n 3, 1) := by decide +kernel
theorem dX11_note_18 : decode cX11_note 18 = .ok (.bipush 100, 2) := by decide +kernel
theorem dX11_note_20 : decode cX11_note 20 = .ok (.invokestatic 59, 3) := by decide +kernel
theorem dX11_note_23 : decode cX11_note 23 = .ok (.ifCond .eq 21, 3) := by decide +kernel
theorem dX11_note_26 : decode cX11_note 26 = .ok (.iload 4, 2) := by decide +kernel
theorem dX11_note_28 : decode cX11_note 28 = .ok (.iconst 2, 1) := by decide +kernel
theorem dX11_note_29 : decode cX11_note 29 = .ok (.invokestatic 59, 3) := by decide +kernel
theorem dX11_note_32 : decode cX11_note 32 = .ok (.ifCond .eq 12, 3) := by decide +kernel
theorem dX11_note_35 : decode cX11_note 35 = .ok (.iload 5, 2) := by decide +kernel
theorem dX11_note_37 : decode cX11_note 37 = .ok (.iconst 2, 1) := by decide +kernel
theorem dX11_note_38 : decode cX11_note 38 = .ok (.invokestatic 59, 3) := by decide +kernel
theorem dX11_note_41 : decode cX11_note 41 = .ok (.ifCond .ne 10, 3) := by decide +kernel
theorem dX11_note_44 : decode cX11_note 44 = .ok (.aload_n 0, 1) := by decide +kernel
theorem dX11_note_45 : decode cX11_note 45 = .ok (.bipush (-2), 2) := by decide +kernel
theorem dX11_note_47 : decode cX11_note 47 = .ok (.invokevirtual 63, 3) := by decide +kernel
theorem dX11_note_50 : decode cX11_note 50 = .ok (.ireturn, 1) := by decide +kernel
theorem dX11_note_51 : decode cX11_note 51 = .ok (.aload_n 0, 1) := by decide +kernel
theorem dX11_note_52 : decode cX11_note 52 = .ok (.getfield 10, 3) := by decide +kernel
theorem dX11_note_55 : decode cX11_note 55 = .ok (.getfield 183, 3) := by decide +kernel
theorem dX11_note_58 : decode cX11_note 58 = .ok (.bipush 6, 2) := by decide +kernel
theorem dX11_note_60 : decode cX11_note 60 = .ok (.if_icmp .lt 10, 3) := by decide +kernel
theorem dX11_note_63 : decode cX11_note 63 = .ok (.aload_n 0, 1) := by decide +kernel
theorem dX11_note_64 : decode cX11_note 64 = .ok (.bipush (-4), 2) := by decide +kernel
theorem dX11_note_66 : decode cX11_note 66 = .ok (.invokevirtual 63, 3) := by decide +kernel
theorem dX11_note_69 : decode cX11_note 69 = .ok (.ireturn, 1) := by decide +kernel
theorem dX11_note_70 : decode cX11_note 70 = .ok (.aload_n 0, 1) := by decide +kernel
theorem dX11_note_71 : decode cX11_note 71 = .ok (.getfield 10, 3) := by decide +kernel
theorem dX11_note_74 : decode cX11_note 74 = .ok (.iload_n 1, 1) := by decide +kernel
theorem dX11_note_75 : decode cX11_note 75 = .ok (.iload_n 2, 1) := by decide +kernel
theorem dX11_note_76 : decode cX11_note 76 = .ok (.iload_n 3, 1) := by decide +kernel
theorem dX11_note_77 : decode cX11_note 77 = .ok (.iload 4, 2) := by decide +kernel
theorem dX11_note_79 : decode cX11_note 79 = .ok (.iload 5, 2) := by decide +kernel
theorem dX11_note_81 : decode cX11_note 81 = .ok (.invokevirtual 186, 3) := by decide +kernel
theorem dX11_note_84 : decode cX11_note 84 = .ok (.aload_n 0, 1) := by decide +kernel
theorem dX11_note_85 : decode cX11_note 85 = .ok (.getfield 10, 3) := by decide +kernel
theorem dX11_note_88 : decode cX11_note 88 = .ok (.getfield 183, 3) := by decide +kernel
theorem dX11_note_91 : decode cX11_note 91 = .ok (.ireturn, 1) := by decide +kernel
theorem dX11_forget_0 : decode cX11_forget 0 = .ok (.iload_n 1, 1) := by decide +kernel
theorem dX11_forget_1 : decode cX11_forget 1 = .ok (.iconst 2, 1) := by decide +kernel
theorem dX11_forget_2 : decode cX11_forget 2 = .ok (.invokestatic 59, 3) := by decide +kernel
theorem dX11_forget_5 : decode cX11_forget 5 = .ok (.ifCond .ne 10, 3) := by decide +kernel
theorem dX11_forget_8 : decode cX11_forget 8 = .ok (.aload_n 0, 1) := by decide +kernel
theorem dX11_forget_9 : decode cX11_forget 9 = .ok (.bipush (-2), 2) := by decide +kernel
theorem dX11_forget_11 : decode cX11_forget 11 = .ok (.invokevirtual 63, 3) := by decide +kernel
theorem dX11_forget_14 : decode cX11_forget 14 = .ok (.ireturn, 1) := by decide +kernel
theorem dX11_forget_15 : decode cX11_forget 15 = .ok (.iload_n 1, 1) := by decide +kernel
theorem dX11_forget_16 : decode cX11_forget 16 = .ok (.ifCond .ne 13, 3) := by decide +kernel
theorem dX11_forget_19 : decode cX11_forget 19 = .ok (.aload_n 0, 1) := by decide +kernel
theorem dX11_forget_20 : decode cX11_forget 20 = .ok (.getfield 10, 3) := by decide +kernel
theorem dX11_forget_23 : decode cX11_forget 23 = .ok (.getfield 157, 3) := by decide +kernel
theorem dX11_forget_26 : decode cX11_forget 26 = .ok (.goto 10, 3) := by decide +kernel
theorem dX11_forget_29 : decode cX11_forget 29 = .ok (.aload_n 0, 1) := by decide +kernel
theorem dX11_forget_30 : decode cX11_forget 30 = .ok (.getfield 10, 3) := by decide +kernel
theorem dX11_forget_33 : decode cX11_forget 33 = .ok (.getfield 183, 3) := by decide +kernel
theorem dX11_forget_36 : decode cX11_forget 36 = .ok (.istore_n 2, 1) := by decide +kernel
theorem dX11_forget_37 : decode cX11_forget 37 = .ok (.iload_n 1, 1) := by decide +kernel
theorem dX11_forget_38 : decode cX11_forget 38 = .ok (.ifCond .ne 14, 3) := by decide +kernel
theorem dX11_forget_41 : decode cX11_forget 41 = .ok (.aload_n 0, 1) := by decide +kernel
theorem dX11_forget_42 : decode cX11_forget 42 = .ok (.getfield 10, 3) := by decide +kernel
theorem dX11_forget_45 : decode cX11_forget 45 = .ok (.iconst 0, 1) := by decide +kernel
theorem dX11_forget_46 : decode cX11_forget 46 = .ok (.putfield 157, 3) := by decide +kernel
theorem dX11_forget_49 : decode cX11_forget 49 = .ok (.goto 11, 3) := by decide +kernel
theorem dX11_forget_52 : decode cX11_forget 52 = .ok (.aload_n 0, 1) := by decide +kernel
theorem dX11_forget_53 : decode cX11_forget 53 = .ok (.getfield 10, 3) := by decide +kernel
theorem dX11_forget_56 : decode cX11_forget 56 = .ok (.iconst 0, 1) := by decide +kernel
theorem dX11_forget_57 : decode cX11_forget 57 = .ok (.putfield 183, 3) := by decide +kernel
theorem dX11_forget_60 : decode cX11_forget 60 = .ok (.iload_n 2, 1) := by decide +kernel
theorem dX11_forget_61 : decode cX11_forget 61 = .ok (.ireturn, 1) := by decide +kernel
theorem dX11_is_0 : decode cX11_is 0 = .ok (.aload_n 0, 1) := by decide +kernel
theorem dX11_is_1 : decode cX11_is 1 = .ok (.iload_n 1, 1) := by decide +kernel
theorem dX11_is_2 : decode cX11_is 2 = .ok (.invokevirtual 96, 3) := by decide +kernel
theorem dX11_is_5 : decode cX11_is 5 = .ok (.ifCond .ne 10, 3) := by decide +kernel
theorem dX11_is_8 : decode cX11_is 8 = .ok (.aload_n 0, 1) := by decide +kernel
theorem dX11_is_9 : decode cX11_is 9 = .ok (.bipush (-2), 2) := by decide +kernel
theorem dX11_is_11 : decode cX11_is 11 = .ok (.invokevirtual 63, 3) := by decide +kernel
theorem dX11_is_14 : decode cX11_is 14 = .ok (.ireturn, 1) := by decide +kernel
theorem dX11_is_15 : decode cX11_is 15 = .ok (.iconst 0, 1) := by decide +kernel
theorem dX11_is_16 : decode cX11_is 16 = .ok (.istore_n 2, 1) := by decide +kernel
theorem dX11_is_17 : decode cX11_is 17 = .ok (.iconst 0, 1) := by decide +kernel
theorem dX11_is_18 : decode cX11_is 18 = .ok (.istore_n 3, 1) := by decide +kernel
theorem dX11_is_19 : decode cX11_is 19 = .ok (.iload_n 3, 1) := by decide +kernel
theorem dX11_is_20 : decode cX11_is 20 = .ok (.bipush 6, 2) := by decide +kernel
theorem dX11_is_22 : decode cX11_is 22 = .ok (.if_icmp .ge 33, 3) := by decide +kernel
theorem dX11_is_25 : decode cX11_is 25 = .ok (.aload_n 0, 1) := by decide +kernel
theorem dX11_is_26 : decode cX11_is 26 = .ok (.iload_n 1, 1) := by decide +kernel
theorem dX11_is_27 : decode cX11_is 27 = .ok (.iload_n 3, 1) := by decide +kernel
theorem dX11_is_28 : decode cX11_is 28 = .ok (.aload_n 0, 1) := by decide +kernel
theorem dX11_is_29 : decode cX11_is 29 = .ok (.getfield 10, 3) := by decide +kernel
theorem dX11_is_32 : decode cX11_is 32 = .ok (.getfield 114, 3) := by decide +kernel
theorem dX11_is_35 : decode cX11_is 35 = .ok (.iload_n 1, 1) := by decide +kernel
theorem dX11_is_36 : decode cX11_is 36 = .ok (.iaload, 1) := by decide +kernel
theorem dX11_is_37 : decode cX11_is 37 = .ok (.invokevirtual 190, 3) := by decide +kernel
theorem dX11_is_40 : decode cX11_is 40 = .ok (.ifCond .eq 9, 3) := by decide +kernel
theorem dX11_is_43 : decode cX11_is 43 = .ok (.iload_n 2, 1) := by decide +kernel
theorem dX11_is_44 : decode cX11_is 44 = .ok (.iconst 1, 1) := by decide +kernel
theorem dX11_is_45 : decode cX11_is 45 = .ok (.iload_n 3, 1) := by decide +kernel
theorem dX11_is_46 : decode cX11_is 46 = .ok (.ishl, 1) := by decide +kernel
theorem dX11_is_47 : decode cX11_is 47 = .ok (.ior, 1) := by decide +kernel
theorem dX11_is_48 : decode cX11_is 48 = .ok (.istore_n 2, 1) := by decide +kernel
theorem dX11_is_49 : decode cX11_is 49 = .ok (.iinc 3 1, 3) := by decide +kernel
theorem dX11_is_52 : decode cX11_is 52 = .ok (.goto (-33), 3) := by decide +kernel
theorem dX11_is_55 : decode cX11_is 55 = .ok (.iload_n 2, 1) := by decide +kernel
theorem dX11_is_56 : decode cX11_is 56 = .ok (.ireturn, 1) := by decide +kernel
theorem dX11_stood_0 : decode cX11_stood 0 = .ok (.aload_n 0, 1) := by decide +kernel
theorem dX11_stood_1 : decode cX11_stood 1 = .ok (.iload_n 1, 1) := by decide +kernel
theorem dX11_stood_2 : decode cX11_stood 2 = .ok (.invokevirtual 96, 3) := by decide +kernel
theorem dX11_stood_5 : decode cX11_stood 5 = .ok (.ifCond .eq 11, 3) := by decide +kernel
theorem dX11_stood_8 : decode cX11_stood 8 = .ok (.aload_n 0, 1) := by decide +kernel
theorem dX11_stood_9 : decode cX11_stood 9 = .ok (.iload_n 1, 1) := by decide +kernel
theorem dX11_stood_10 : decode cX11_stood 10 = .ok (.invokevirtual 194, 3) := by decide +kernel
theorem dX11_stood_13 : decode cX11_stood 13 = .ok (.goto 9, 3) := by decide +kernel
theorem dX11_stood_16 : decode cX11_stood 16 = .ok (.aload_n 0, 1) := by decide +kernel
theorem dX11_stood_17 : decode cX11_stood 17 = .ok (.bipush (-2), 2) := by decide +kernel
theorem dX11_stood_19 : decode cX11_stood 19 = .ok (.invokevirtual 63, 3) := by decide +kernel
theorem dX11_stood_22 : decode cX11_stood 22 = .ok (.ireturn, 1) := by decide +kernel
theorem dX11_next_0 : decode cX11_next 0 = .ok (.aload_n 0, 1) := by decide +kernel
theorem dX11_next_1 : decode cX11_next 1 = .ok (.iload_n 1, 1) := by decide +kernel
theorem dX11_next_2 : decode cX11_next 2 = .ok (.invokevirtual 96, 3) := by decide +kernel
theorem dX11_next_5 : decode cX11_next 5 = .ok (.ifCond .ne 10, 3) := by decide +kernel
theorem dX11_next_8 : decode cX11_next 8 = .ok (.aload_n 0, 1) := by decide +kernel
theorem dX11_next_9 : decode cX11_next 9 = .ok (.bipush (-2), 2) := by decide +kernel
theorem dX11_next_11 : decode cX11_next 11 = .ok (.invokevirtual 63, 3) := by decide +kernel
theorem dX11_next_14 : decode cX11_next 14 = .ok (.ireturn, 1) := by decide +kernel
theorem dX11_next_15 : decode cX11_next 15 = .ok (.aload_n 0, 1) := by decide +kernel
theorem dX11_next_16 : decode cX11_next 16 = .ok (.iload_n 1, 1) := by decide +kernel
theorem dX11_next_17 : decode cX11_next 17 = .ok (.invokevirtual 194, 3) := by decide +kernel
theorem dX11_next_20 : decode cX11_next 20 = .ok (.istore_n 2, 1) := by decide +kernel
theorem dX11_next_21 : decode cX11_next 21 = .ok (.bipush 11, 2) := by decide +kernel
theorem dX11_next_23 : decode cX11_next 23 = .ok (.istore_n 3, 1) := by decide +kernel
theorem dX11_next_24 : decode cX11_next 24 = .ok (.iconst (-1), 1) := by decide +kernel
theorem dX11_next_25 : decode cX11_next 25 = .ok (.istore 4, 2) := by decide +kernel
theorem dX11_next_27 : decode cX11_next 27 = .ok (.iconst 0, 1) := by decide +kernel
theorem dX11_next_28 : decode cX11_next 28 = .ok (.istore 5, 2) := by decide +kernel
theorem dX11_next_30 : decode cX11_next 30 = .ok (.iload 5, 2) := by decide +kernel
theorem dX11_next_32 : decode cX11_next 32 = .ok (.bipush 10, 2) := by decide +kernel
theorem dX11_next_34 : decode cX11_next 34 = .ok (.if_icmp .ge 56, 3) := by decide +kernel
theorem dX11_next_37 : decode cX11_next 37 = .ok (.iload_n 2, 1) := by decide +kernel
theorem dX11_next_38 : decode cX11_next 38 = .ok (.ifCond .eq 52, 3) := by decide +kernel
theorem dX11_next_41 : decode cX11_next 41 = .ok (.iload_n 2, 1) := by decide +kernel
theorem dX11_next_42 : decode cX11_next 42 = .ok (.aload_n 0, 1) := by decide +kernel
theorem dX11_next_43 : decode cX11_next 43 = .ok (.iload_n 1, 1) := by decide +kernel
theorem dX11_next_44 : decode cX11_next 44 = .ok (.iload 5, 2) := by decide +kernel
theorem dX11_next_46 : decode cX11_next 46 = .ok (.invokevirtual 197, 3) := by decide +kernel
theorem dX11_next_49 : decode cX11_next 49 = .ok (.iand, 1) := by decide +kernel
theorem dX11_next_50 : decode cX11_next 50 = .ok (.istore 6, 2) := by decide +kernel
theorem dX11_next_52 : decode cX11_next 52 = .ok (.iload 6, 2) := by decide +kernel
theorem dX11_next_54 : decode cX11_next 54 = .ok (.invokestatic 132, 3) := by decide +kernel
theorem dX11_next_57 : decode cX11_next 57 = .ok (.iload_n 2, 1) := by decide +kernel
theorem dX11_next_58 : decode cX11_next 58 = .ok (.iload 6, 2) := by decide +kernel
theorem dX11_next_60 : decode cX11_next 60 = .ok (.iconst (-1), 1) := by decide +kernel
theorem dX11_next_61 : decode cX11_next 61 = .ok (.ixor, 1) := by decide +kernel
theorem dX11_next_62 : decode cX11_next 62 = .ok (.iand, 1) := by decide +kernel
theorem dX11_next_63 : decode cX11_next 63 = .ok (.invokestatic 132, 3) := by decide +kernel
theorem dX11_next_66 : decode cX11_next 66 = .ok (.invokestatic 200, 3) := by decide +kernel
theorem dX11_next_69 : decode cX11_next 69 = .ok (.istore 7, 2) := by decide +kernel
theorem dX11_next_71 : decode cX11_next 71 = .ok (.iload 7, 2) := by decide +kernel
theorem dX11_next_73 : decode cX11_next 73 = .ok (.iload_n 3, 1) := by decide +kernel
theorem dX11_next_74 : decode cX11_next 74 = .ok (.if_icmp .ge 10, 3) := by decide +kernel
theorem dX11_next_77 : decode cX11_next 77 = .ok (.iload 7, 2) := by decide +kernel
theorem dX11_next_79 : decode cX11_next 79 = .ok (.istore_n 3, 1) := by decide +kernel
theorem dX11_next_80 : decode cX11_next 80 = .ok (.iload 5, 2) := by decide +kernel
theorem dX11_next_82 : decode cX11_next 82 = .ok (.istore 4, 2) := by decide +kernel
theorem dX11_next_84 : decode cX11_next 84 = .ok (.iinc 5 1, 3) := by decide +kernel
theorem dX11_next_87 : decode cX11_next 87 = .ok (.goto (-57), 3) := by decide +kernel
theorem dX11_next_90 : decode cX11_next 90 = .ok (.iload 4, 2) := by decide +kernel
theorem dX11_next_92 : decode cX11_next 92 = .ok (.ireturn, 1) := by decide +kernel
theorem dX11_trippers_0 : decode cX11_trippers 0 = .ok (.aload_n 0, 1) := by decide +kernel
theorem dX11_trippers_1 : decode cX11_trippers 1 = .ok (.iload_n 1, 1) := by decide +kernel
theorem dX11_trippers_2 : decode cX11_trippers 2 = .ok (.invokevirtual 96, 3) := by decide +kernel
theorem dX11_trippers_5 : decode cX11_trippers 5 = .ok (.ifCond .eq 30, 3) := by decide +kernel
theorem dX11_trippers_8 : decode cX11_trippers 8 = .ok (.aload_n 0, 1) := by decide +kernel
theorem dX11_trippers_9 : decode cX11_trippers 9 = .ok (.iload_n 2, 1) := by decide +kernel
theorem dX11_trippers_10 : decode cX11_trippers 10 = .ok (.invokevirtual 96, 3) := by decide +kernel
theorem dX11_trippers_13 : decode cX11_trippers 13 = .ok (.ifCond .eq 22, 3) := by decide +kernel
theorem dX11_trippers_16 : decode cX11_trippers 16 = .ok (.iload_n 3, 1) := by decide +kernel
theorem dX11_trippers_17 : decode cX11_trippers 17 = .ok (.bipush 10, 2) := by decide +kernel
theorem dX11_trippers_19 : decode cX11_trippers 19 = .ok (.invokestatic 59, 3) := by decide +kernel
theorem dX11_trippers_22 : decode cX11_trippers 22 = .ok (.ifCond .eq 13, 3) := by decide +kernel
theorem dX11_trippers_25 : decode cX11_trippers 25 = .ok (.iload 4, 2) := by decide +kernel
theorem dX11_trippers_27 : decode cX11_trippers 27 = .ok (.bipush 11, 2) := by decide +kernel
theorem dX11_trippers_29 : decode cX11_trippers 29 = .ok (.invokestatic 59, 3) := by decide +kernel
theorem dX11_trippers_32 : decode cX11_trippers 32 = .ok (.ifCond .ne 10, 3) := by decide +kernel
theorem dX11_trippers_35 : decode cX11_trippers 35 = .ok (.aload_n 0, 1) := by decide +kernel
theorem dX11_trippers_36 : decode cX11_trippers 36 = .ok (.bipush (-2), 2) := by decide +kernel
theorem dX11_trippers_38 : decode cX11_trippers 38 = .ok (.invokevirtual 63, 3) := by decide +kernel
theorem dX11_trippers_41 : decode cX11_trippers 41 = .ok (.ireturn, 1) := by decide +kernel
theorem dX11_trippers_42 : decode cX11_trippers 42 = .ok (.aload_n 0, 1) := by decide +kernel
theorem dX11_trippers_43 : decode cX11_trippers 43 = .ok (.iload_n 2, 1) := by decide +kernel
theorem dX11_trippers_44 : decode cX11_trippers 44 = .ok (.iload_n 3, 1) := by decide +kernel
theorem dX11_trippers_45 : decode cX11_trippers 45 = .ok (.invokevirtual 100, 3) := by decide +kernel
theorem dX11_trippers_48 : decode cX11_trippers 48 = .ok (.istore 5, 2) := by decide +kernel
theorem dX11_trippers_50 : decode cX11_trippers 50 = .ok (.lconst 1, 1) := by decide +kernel
theorem dX11_trippers_51 : decode cX11_trippers 51 = .ok (.lstore 6, 2) := by decide +kernel
theorem dX11_trippers_53 : decode cX11_trippers 53 = .ok (.lconst 1, 1) := by decide +kernel
theorem dX11_trippers_54 : decode cX11_trippers 54 = .ok (.lstore 8, 2) := by decide +kernel
theorem dX11_trippers_56 : decode cX11_trippers 56 = .ok (.iload 5, 2) := by decide +kernel
theorem dX11_trippers_58 : decode cX11_trippers 58 = .ok (.invokestatic 132, 3) := by decide +kernel
theorem dX11_trippers_61 : decode cX11_trippers 61 = .ok (.istore 10, 2) := by decide +kernel
theorem dX11_trippers_63 : decode cX11_trippers 63 = .ok (.iload 10, 2) := by decide +kernel
theorem dX11_trippers_65 : decode cX11_trippers 65 = .ok (.ifCond .le 25, 3) := by decide +kernel
theorem dX11_trippers_68 : decode cX11_trippers 68 = .ok (.lload 6, 2) := by decide +kernel
theorem dX11_trippers_70 : decode cX11_trippers 70 = .ok (.ldc2_w 205, 3) := by decide +kernel
theorem dX11_trippers_73 : decode cX11_trippers 73 = .ok (.lmul, 1) := by decide +kernel
theorem dX11_trippers_74 : decode cX11_trippers 74 = .ok (.lstore 6, 2) := by decide +kernel
theorem dX11_trippers_76 : decode cX11_trippers 76 = .ok (.lload 8, 2) := by decide +kernel
theorem dX11_trippers_78 : decode cX11_trippers 78 = .ok (.iload 4, 2) := by decide +kernel
theorem dX11_trippers_80 : decode cX11_trippers 80 = .ok (.i2l, 1) := by decide +kernel
theorem dX11_trippers_81 : decode cX11_trippers 81 = .ok (.lmul, 1) := by decide +kernel
theorem dX11_trippers_82 : decode cX11_trippers 82 = .ok (.lstore 8, 2) := by decide +kernel
theorem dX11_trippers_84 : decode cX11_trippers 84 = .ok (.iinc 10 (-1), 3) := by decide +kernel
theorem dX11_trippers_87 : decode cX11_trippers 87 = .ok (.goto (-24), 3) := by decide +kernel
theorem dX11_trippers_90 : decode cX11_trippers 90 = .ok (.iload 5, 2) := by decide +kernel
theorem dX11_trippers_92 : decode cX11_trippers 92 = .ok (.iload_n 1, 1) := by decide +kernel
theorem dX11_trippers_93 : decode cX11_trippers 93 = .ok (.invokestatic 180, 3) := by decide +kernel
theorem dX11_trippers_96 : decode cX11_trippers 96 = .ok (.bipush 10, 2) := by decide +kernel
theorem dX11_trippers_98 : decode cX11_trippers 98 = .ok (.iload 4, 2) := by decide +kernel
theorem dX11_trippers_100 : decode cX11_trippers 100 = .ok (.isub, 1) := by decide +kernel
theorem dX11_trippers_101 : decode cX11_trippers 101 = .ok (.imul, 1) := by decide +kernel
theorem dX11_trippers_102 : decode cX11_trippers 102 = .ok (.i2l, 1) := by decide +kernel
theorem dX11_trippers_103 : decode cX11_trippers 103 = .ok (.lload 6, 2) := by decide +kernel
theorem dX11_trippers_105 : decode cX11_trippers 105 = .ok (.ldc2_w 205, 3) := by decide +kernel
theorem dX11_trippers_108 : decode cX11_trippers 108 = .ok (.ldiv, 1) := by decide +kernel
theorem dX11_trippers_109 : decode cX11_trippers 109 = .ok (.lmul, 1) := by decide +kernel
theorem dX11_trippers_110 : decode cX11_trippers 110 = .ok (.lstore 10, 2) := by decide +kernel
theorem dX11_trippers_112 : decode cX11_trippers 112 = .ok (.lload 10, 2) := by decide +kernel
theorem dX11_trippers_114 : decode cX11_trippers 114 = .ok (.aload_n 0, 1) := by decide +kernel
theorem dX11_trippers_115 : decode cX11_trippers 115 = .ok (.getfield 10, 3) := by decide +kernel
theorem dX11_trippers_118 : decode cX11_trippers 118 = .ok (.getfield 107, 3) := by decide +kernel
theorem dX11_trippers_121 : decode cX11_trippers 121 = .ok (.iload_n 2, 1) := by decide +kernel
theorem dX11_trippers_122 : decode cX11_trippers 122 = .ok (.iaload, 1) := by decide +kernel
theorem dX11_trippers_123 : decode cX11_trippers 123 = .ok (.iload_n 1, 1) := by decide +kernel
theorem dX11_trippers_124 : decode cX11_trippers 124 = .ok (.invokestatic 180, 3) := by decide +kernel
theorem dX11_trippers_127 : decode cX11_trippers 127 = .ok (.i2l, 1) := by decide +kernel
theorem dX11_trippers_128 : decode cX11_trippers 128 = .ok (.lload 8, 2) := by decide +kernel
theorem dX11_trippers_130 : decode cX11_trippers 130 = .ok (.lmul, 1) := by decide +kernel
theorem dX11_trippers_131 : decode cX11_trippers 131 = .ok (.ladd, 1) := by decide +kernel
theorem dX11_trippers_132 : decode cX11_trippers 132 = .ok (.lstore 10, 2) := by decide +kernel
theorem dX11_trippers_134 : decode cX11_trippers 134 = .ok (.aload_n 0, 1) := by decide +kernel
theorem dX11_trippers_135 : decode cX11_trippers 135 = .ok (.getfield 37, 3) := by decide +kernel
theorem dX11_trippers_138 : decode cX11_trippers 138 = .ok (.lload 10, 2) := by decide +kernel
theorem dX11_trippers_140 : decode cX11_trippers 140 = .ok (.lload 6, 2) := by decide +kernel
theorem dX11_trippers_142 : decode cX11_trippers 142 = .ok (.invokevirtual 166, 3) := by decide +kernel
theorem dX11_trippers_145 : decode cX11_trippers 145 = .ok (.iconst 1, 1) := by decide +kernel
theorem dX11_trippers_146 : decode cX11_trippers 146 = .ok (.ireturn, 1) := by decide +kernel
theorem dX11_weeks_0 : decode cX11_weeks 0 = .ok (.iload_n 1, 1) := by decide +kernel
theorem dX11_weeks_1 : decode cX11_weeks 1 = .ok (.ldc 207, 2) := by decide +kernel
theorem dX11_weeks_3 : decode cX11_weeks 3 = .ok (.invokestatic 59, 3) := by decide +kernel
theorem dX11_weeks_6 : decode cX11_weeks 6 = .ok (.ifCond .eq 12, 3) := by decide +kernel
theorem dX11_weeks_9 : decode cX11_weeks 9 = .ok (.iload_n 2, 1) := by decide +kernel
theorem dX11_weeks_10 : decode cX11_weeks 10 = .ok (.bipush 61, 2) := by decide +kernel
theorem dX11_weeks_12 : decode cX11_weeks 12 = .ok (.invokestatic 59, 3) := by decide +kernel
theorem dX11_weeks_15 : decode cX11_weeks 15 = .ok (.ifCond .ne 10, 3) := by decide +kernel
theorem dX11_weeks_18 : decode cX11_weeks 18 = .ok (.aload_n 0, 1) := by decide +kernel
theorem dX11_weeks_19 : decode cX11_weeks 19 = .ok (.bipush (-2), 2) := by decide +kernel
theorem dX11_weeks_21 : decode cX11_weeks 21 = .ok (.invokevirtual 63, 3) := by decide +kernel
theorem dX11_weeks_24 : decode cX11_weeks 24 = .ok (.ireturn, 1) := by decide +kernel
theorem dX11_weeks_25 : decode cX11_weeks 25 = .ok (.aload_n 0, 1) := by decide +kernel
theorem dX11_weeks_26 : decode cX11_weeks 26 = .ok (.getfield 10, 3) := by decide +kernel
theorem dX11_weeks_29 : decode cX11_weeks 29 = .ok (.getfield 67, 3) := by decide +kernel
theorem dX11_weeks_32 : decode cX11_weeks 32 = .ok (.ifCond .ne 10, 3) := by decide +kernel
theorem dX11_weeks_35 : decode cX11_weeks 35 = .ok (.aload_n 0, 1) := by decide +kernel
theorem dX11_weeks_36 : decode cX11_weeks 36 = .ok (.bipush (-3), 2) := by decide +kernel
theorem dX11_weeks_38 : decode cX11_weeks 38 = .ok (.invokevirtual 63, 3) := by decide +kernel
theorem dX11_weeks_41 : decode cX11_weeks 41 = .ok (.ireturn, 1) := by decide +kernel
theorem dX11_weeks_42 : decode cX11_weeks 42 = .ok (.aload_n 0, 1) := by decide +kernel
theorem dX11_weeks_43 : decode cX11_weeks 43 = .ok (.getfield 44, 3) := by decide +kernel
theorem dX11_weeks_46 : decode cX11_weeks 46 = .ok (.aload_n 0, 1) := by decide +kernel
theorem dX11_weeks_47 : decode cX11_weeks 47 = .ok (.getfield 10, 3) := by decide +kernel
theorem dX11_weeks_50 : decode cX11_weeks 50 = .ok (.invokevirtual 137, 3) := by decide +kernel
theorem dX11_weeks_53 : decode cX11_weeks 53 = .ok (.aload_n 0, 1) := by decide +kernel
theorem dX11_weeks_54 : decode cX11_weeks 54 = .ok (.getfield 51, 3) := by decide +kernel
theorem dX11_weeks_57 : decode cX11_weeks 57 = .ok (.aload_n 0, 1) := by decide +kernel
theorem dX11_weeks_58 : decode cX11_weeks 58 = .ok (.getfield 10, 3) := by decide +kernel
theorem dX11_weeks_61 : decode cX11_weeks 61 = .ok (.aload_n 0, 1) := by decide +kernel
theorem dX11_weeks_62 : decode cX11_weeks 62 = .ok (.getfield 44, 3) := by decide +kernel
theorem dX11_weeks_65 : decode cX11_weeks 65 = .ok (.iload_n 1, 1) := by decide +kernel
theorem dX11_weeks_66 : decode cX11_weeks 66 = .ok (.iload_n 2, 1) := by decide +kernel
theorem dX11_weeks_67 : decode cX11_weeks 67 = .ok (.invokevirtual 208, 3) := by decide +kernel
theorem dX11_weeks_70 : decode cX11_weeks 70 = .ok (.ireturn, 1) := by decide +kernel
theorem dX11_part_0 : decode cX11_part 0 = .ok (.iload_n 1, 1) := by decide +kernel
theorem dX11_part_1 : decode cX11_part 1 = .ok (.iconst 2, 1) := by decide +kernel
theorem dX11_part_2 : decode cX11_part 2 = .ok (.invokestatic 59, 3) := by decide +kernel
theorem dX11_part_5 : decode cX11_part 5 = .ok (.ifCond .ne 11, 3) := by decide +kernel
theorem dX11_part_8 : decode cX11_part 8 = .ok (.aload_n 0, 1) := by decide +kernel
theorem dX11_part_9 : decode cX11_part 9 = .ok (.bipush (-2), 2) := by decide +kernel
theorem dX11_part_11 : decode cX11_part 11 = .ok (.invokevirtual 63, 3) := by decide +kernel
theorem dX11_part_14 : decode cX11_part 14 = .ok (.i2l, 1) := by decide +kernel
theorem dX11_part_15 : decode cX11_part 15 = .ok (.lreturn, 1) := by decide +kernel
theorem dX11_part_16 : decode cX11_part 16 = .ok (.iload_n 1, 1) := by decide +kernel
theorem dX11_part_17 : decode cX11_part 17 = .ok (.ifCond .ne 13, 3) := by decide +kernel
theorem dX11_part_20 : decode cX11_part 20 = .ok (.aload_n 0, 1) := by decide +kernel
theorem dX11_part_21 : decode cX11_part 21 = .ok (.getfield 37, 3) := by decide +kernel
theorem dX11_part_24 : decode cX11_part 24 = .ok (.getfield 212, 3) := by decide +kernel
theorem dX11_part_27 : decode cX11_part 27 = .ok (.goto 10, 3) := by decide +kernel
theorem dX11_part_30 : decode cX11_part 30 = .ok (.aload_n 0, 1) := by decide +kernel
theorem dX11_part_31 : decode cX11_part 31 = .ok (.getfield 37, 3) := by decide +kernel
theorem dX11_part_34 : decode cX11_part 34 = .ok (.getfield 216, 3) := by decide +kernel
theorem dX11_part_37 : decode cX11_part 37 = .ok (.lreturn, 1) := by decide +kernel
theorem dX11_image_0 : decode cX11_image 0 = .ok (.iload_n 1, 1) := by decide +kernel
theorem dX11_image_1 : decode cX11_image 1 = .ok (.iconst 2, 1) := by decide +kernel
theorem dX11_image_2 : decode cX11_image 2 = .ok (.invokestatic 59, 3) := by decide +kernel
theorem dX11_image_5 : decode cX11_image 5 = .ok (.ifCond .ne 10, 3) := by decide +kernel
theorem dX11_image_8 : decode cX11_image 8 = .ok (.aload_n 0, 1) := by decide +kernel
theorem dX11_image_9 : decode cX11_image 9 = .ok (.bipush (-2), 2) := by decide +kernel
theorem dX11_image_11 : decode cX11_image 11 = .ok (.invokevirtual 63, 3) := by decide +kernel
theorem dX11_image_14 : decode cX11_image 14 = .ok (.ireturn, 1) := by decide +kernel
theorem dX11_image_15 : decode cX11_image 15 = .ok (.aload_n 0, 1) := by decide +kernel
theorem dX11_image_16 : decode cX11_image 16 = .ok (.getfield 19, 3) := by decide +kernel
theorem dX11_image_19 : decode cX11_image 19 = .ok (.iload_n 1, 1) := by decide +kernel
theorem dX11_image_20 : decode cX11_image 20 = .ok (.aaload, 1) := by decide +kernel
theorem dX11_image_21 : decode cX11_image 21 = .ok (.aload_n 0, 1) := by decide +kernel
theorem dX11_image_22 : decode cX11_image 22 = .ok (.getfield 10, 3) := by decide +kernel
theorem dX11_image_25 : decode cX11_image 25 = .ok (.invokevirtual 92, 3) := by decide +kernel
theorem dX11_image_28 : decode cX11_image 28 = .ok (.aload_n 0, 1) := by decide +kernel
theorem dX11_image_29 : decode cX11_image 29 = .ok (.getfield 23, 3) := by decide +kernel
theorem dX11_image_32 : decode cX11_image 32 = .ok (.iload_n 1, 1) := by decide +kernel
theorem dX11_image_33 : decode cX11_image 33 = .ok (.iconst 1, 1) := by decide +kernel
theorem dX11_image_34 : decode cX11_image 34 = .ok (.bastore, 1) := by decide +kernel
theorem dX11_image_35 : decode cX11_image 35 = .ok (.iconst 1, 1) := by decide +kernel
theorem dX11_image_36 : decode cX11_image 36 = .ok (.ireturn, 1) := by decide +kernel
theorem dX11_from_0 : decode cX11_from 0 = .ok (.iload_n 1, 1) := by decide +kernel
theorem dX11_from_1 : decode cX11_from 1 = .ok (.iconst 2, 1) := by decide +kernel
theorem dX11_from_2 : decode cX11_from 2 = .ok (.invokestatic 59, 3) := by decide +kernel
theorem dX11_from_5 : decode cX11_from 5 = .ok (.ifCond .ne 10, 3) := by decide +kernel
theorem dX11_from_8 : decode cX11_from 8 = .ok (.aload_n 0, 1) := by decide +kernel
theorem dX11_from_9 : decode cX11_from 9 = .ok (.bipush (-2), 2) := by decide +kernel
theorem dX11_from_11 : decode cX11_from 11 = .ok (.invokevirtual 63, 3) := by decide +kernel
theorem dX11_from_14 : decode cX11_from 14 = .ok (.ireturn, 1) := by decide +kernel
theorem dX11_from_15 : decode cX11_from 15 = .ok (.aload_n 0, 1) := by decide +kernel
theorem dX11_from_16 : decode cX11_from 16 = .ok (.getfield 23, 3) := by decide +kernel
theorem dX11_from_19 : decode cX11_from 19 = .ok (.iload_n 1, 1) := by decide +kernel
theorem dX11_from_20 : decode cX11_from 20 = .ok (.baload, 1) := by decide +kernel
theorem dX11_from_21 : decode cX11_from 21 = .ok (.ifCond .ne 10, 3) := by decide +kernel
theorem dX11_from_24 : decode cX11_from 24 = .ok (.aload_n 0, 1) := by decide +kernel
theorem dX11_from_25 : decode cX11_from 25 = .ok (.bipush (-3), 2) := by decide +kernel
theorem dX11_from_27 : decode cX11_from 27 = .ok (.invokevirtual 63, 3) := by decide +kernel
theorem dX11_from_30 : decode cX11_from 30 = .ok (.ireturn, 1) := by decide +kernel
theorem dX11_from_31 : decode cX11_from 31 = .ok (.aload_n 0, 1) := by decide +kernel
theorem dX11_from_32 : decode cX11_from 32 = .ok (.getfield 10, 3) := by decide +kernel
theorem dX11_from_35 : decode cX11_from 35 = .ok (.aload_n 0, 1) := by decide +kernel
theorem dX11_from_36 : decode cX11_from 36 = .ok (.getfield 19, 3) := by decide +kernel
theorem dX11_from_39 : decode cX11_from 39 = .ok (.iload_n 1, 1) := by decide +kernel
theorem dX11_from_40 : decode cX11_from 40 = .ok (.aaload, 1) := by decide +kernel
theorem dX11_from_41 : decode cX11_from 41 = .ok (.invokevirtual 92, 3) := by decide +kernel
theorem dX11_from_44 : decode cX11_from 44 = .ok (.iconst 1, 1) := by decide +kernel
theorem dX11_from_45 : decode cX11_from 45 = .ok (.ireturn, 1) := by decide +kernel
theorem dX11_status_0 : decode cX11_status 0 = .ok (.iload_n 1, 1) := by decide +kernel
theorem dX11_status_1 : decode cX11_status 1 = .ok (.iconst 3, 1) := by decide +kernel
theorem dX11_status_2 : decode cX11_status 2 = .ok (.invokestatic 59, 3) := by decide +kernel
theorem dX11_status_5 : decode cX11_status 5 = .ok (.ifCond .ne 12, 3) := by decide +kernel
theorem dX11_status_8 : decode cX11_status 8 = .ok (.aload_n 0, 1) := by decide +kernel
theorem dX11_status_9 : decode cX11_status 9 = .ok (.bipush (-2), 2) := by decide +kernel
theorem dX11_status_11 : decode cX11_status 11 = .ok (.invokevirtual 63, 3) := by decide +kernel
theorem dX11_status_14 : decode cX11_status 14 = .ok (.pop, 1) := by decide +kernel
theorem dX11_status_15 : decode cX11_status 15 = .ok (.iconst (-1), 1) := by decide +kernel
theorem dX11_status_16 : decode cX11_status 16 = .ok (.ireturn, 1) := by decide +kernel
theorem dX11_status_17 : decode cX11_status 17 = .ok (.aload_n 0, 1) := by decide +kernel
theorem dX11_status_18 : decode cX11_status 18 = .ok (.getfield 55, 3) := by decide +kernel
theorem dX11_status_21 : decode cX11_status 21 = .ok (.iload_n 1, 1) := by decide +kernel
theorem dX11_status_22 : decode cX11_status 22 = .ok (.iaload, 1) := by decide +kernel
theorem dX11_status_23 : decode cX11_status 23 = .ok (.ireturn, 1) := by decide +kernel
theorem dX11_count_0 : decode cX11_count 0 = .ok (.iload_n 1, 1) := by decide +kernel
theorem dX11_count_1 : decode cX11_count 1 = .ok (.bipush 7, 2) := by decide +kernel
theorem dX11_count_3 : decode cX11_count 3 = .ok (.invokestatic 59, 3) := by decide +kernel
theorem dX11_count_6 : decode cX11_count 6 = .ok (.ifCond .eq 11, 3) := by decide +kernel
theorem dX11_count_9 : decode cX11_count 9 = .ok (.aload_n 0, 1) := by decide +kernel
theorem dX11_count_10 : decode cX11_count 10 = .ok (.iload_n 1, 1) := by decide +kernel
theorem dX11_count_11 : decode cX11_count 11 = .ok (.invokevirtual 219, 3) := by decide +kernel
theorem dX11_count_14 : decode cX11_count 14 = .ok (.goto 9, 3) := by decide +kernel
theorem dX11_count_17 : decode cX11_count 17 = .ok (.aload_n 0, 1) := by decide +kernel
theorem dX11_count_18 : decode cX11_count 18 = .ok (.bipush (-2), 2) := by decide +kernel
theorem dX11_count_20 : decode cX11_count 20 = .ok (.invokevirtual 63, 3) := by decide +kernel
theorem dX11_count_23 : decode cX11_count 23 = .ok (.ireturn, 1) := by decide +kernel
theorem dX11_digest_0 : decode cX11_digest 0 = .ok (.ldc2_w 222, 3) := by decide +kernel
theorem dX11_digest_3 : decode cX11_digest 3 = .ok (.lstore_n 1, 1) := by decide +kernel
theorem dX11_digest_4 : decode cX11_digest 4 = .ok (.iconst 0, 1) := by decide +kernel
theorem dX11_digest_5 : decode cX11_digest 5 = .ok (.istore_n 3, 1) := by decide +kernel
theorem dX11_digest_6 : decode cX11_digest 6 = .ok (.iload_n 3, 1) := by decide +kernel
theorem dX11_digest_7 : decode cX11_digest 7 = .ok (.bipush 7, 2) := by decide +kernel
theorem dX11_digest_9 : decode cX11_digest 9 = .ok (.if_icmp .ge 22, 3) := by decide +kernel
theorem dX11_digest_12 : decode cX11_digest 12 = .ok (.ldc2_w 224, 3) := by decide +kernel
theorem dX11_digest_15 : decode cX11_digest 15 = .ok (.lload_n 1, 1) := by decide +kernel
theorem dX11_digest_16 : decode cX11_digest 16 = .ok (.lmul, 1) := by decide +kernel
theorem dX11_digest_17 : decode cX11_digest 17 = .ok (.aload_n 0, 1) := by decide +kernel
theorem dX11_digest_18 : decode cX11_digest 18 = .ok (.iload_n 3, 1) := by decide +kernel
theorem dX11_digest_19 : decode cX11_digest 19 = .ok (.invokevirtual 219, 3) := by decide +kernel
theorem dX11_digest_22 : decode cX11_digest 22 = .ok (.i2l, 1) := by decide +kernel
theorem dX11_digest_23 : decode cX11_digest 23 = .ok (.ladd, 1) := by decide +kernel
theorem dX11_digest_24 : decode cX11_digest 24 = .ok (.lstore_n 1, 1) := by decide +kernel
theorem dX11_digest_25 : decode cX11_digest 25 = .ok (.iinc 3 1, 3) := by decide +kernel
theorem dX11_digest_28 : decode cX11_digest 28 = .ok (.goto (-22), 3) := by decide +kernel
theorem dX11_digest_31 : decode cX11_digest 31 = .ok (.aload_n 0, 1) := by decide +kernel
theorem dX11_digest_32 : decode cX11_digest 32 = .ok (.getfield 10, 3) := by decide +kernel
theorem dX11_digest_35 : decode cX11_digest 35 = .ok (.lload_n 1, 1) := by decide +kernel
theorem dX11_digest_36 : decode cX11_digest 36 = .ok (.invokevirtual 226, 3) := by decide +kernel
theorem dX11_digest_39 : decode cX11_digest 39 = .ok (.lstore_n 1, 1) := by decide +kernel
theorem dX11_digest_40 : decode cX11_digest 40 = .ok (.ldc2_w 224, 3) := by decide +kernel
theorem dX11_digest_43 : decode cX11_digest 43 = .ok (.lload_n 1, 1) := by decide +kernel
theorem dX11_digest_44 : decode cX11_digest 44 = .ok (.lmul, 1) := by decide +kernel
theorem dX11_digest_45 : decode cX11_digest 45 = .ok (.aload_n 0, 1) := by decide +kernel
theorem dX11_digest_46 : decode cX11_digest 46 = .ok (.getfield 37, 3) := by decide +kernel
theorem dX11_digest_49 : decode cX11_digest 49 = .ok (.getfield 212, 3) := by decide +kernel
theorem dX11_digest_52 : decode cX11_digest 52 = .ok (.ladd, 1) := by decide +kernel
theorem dX11_digest_53 : decode cX11_digest 53 = .ok (.lstore_n 1, 1) := by decide +kernel
theorem dX11_digest_54 : decode cX11_digest 54 = .ok (.ldc2_w 224, 3) := by decide +kernel
theorem dX11_digest_57 : decode cX11_digest 57 = .ok (.lload_n 1, 1) := by decide +kernel
theorem dX11_digest_58 : decode cX11_digest 58 = .ok (.lmul, 1) := by decide +kernel
theorem dX11_digest_59 : decode cX11_digest 59 = .ok (.aload_n 0, 1) := by decide +kernel
theorem dX11_digest_60 : decode cX11_digest 60 = .ok (.getfield 37, 3) := by decide +kernel
theorem dX11_digest_63 : decode cX11_digest 63 = .ok (.getfield 216, 3) := by decide +kernel
theorem dX11_digest_66 : decode cX11_digest 66 = .ok (.ladd, 1) := by decide +kernel
theorem dX11_digest_67 : decode cX11_digest 67 = .ok (.lreturn, 1) := by decide +kernel
theorem dX11_within_0 : decode cX11_within 0 = .ok (.iload_n 0, 1) := by decide +kernel
theorem dX11_within_1 : decode cX11_within 1 = .ok (.ifCond .lt 12, 3) := by decide +kernel
theorem dX11_within_4 : decode cX11_within 4 = .ok (.iload_n 0, 1) := by decide +kernel
theorem dX11_within_5 : decode cX11_within 5 = .ok (.iload_n 1, 1) := by decide +kernel
theorem dX11_within_6 : decode cX11_within 6 = .ok (.if_icmp .ge 7, 3) := by decide +kernel
theorem dX11_within_9 : decode cX11_within 9 = .ok (.iconst 1, 1) := by decide +kernel
theorem dX11_within_10 : decode cX11_within 10 = .ok (.goto 4, 3) := by decide +kernel
theorem dX11_within_13 : decode cX11_within 13 = .ok (.iconst 0, 1) := by decide +kernel
theorem dX11_within_14 : decode cX11_within 14 = .ok (.ireturn, 1) := by decide +kernel
theorem dX11_bit_0 : decode cX11_bit 0 = .ok (.iload_n 0, 1) := by decide +kernel
theorem dX11_bit_1 : decode cX11_bit 1 = .ok (.iload_n 1, 1) := by decide +kernel
theorem dX11_bit_2 : decode cX11_bit 2 = .ok (.ishr, 1) := by decide +kernel
theorem dX11_bit_3 : decode cX11_bit 3 = .ok (.iconst 1, 1) := by decide +kernel
theorem dX11_bit_4 : decode cX11_bit 4 = .ok (.iand, 1) := by decide +kernel
theorem dX11_bit_5 : decode cX11_bit 5 = .ok (.ireturn, 1) := by decide +kernel
theorem dX11_isThere_0 : decode cX11_isThere 0 = .ok (.iload_n 1, 1) := by decide +kernel
theorem dX11_isThere_1 : decode cX11_isThere 1 = .ok (.aload_n 0, 1) := by decide +kernel
theorem dX11_isThere_2 : decode cX11_isThere 2 = .ok (.getfield 10, 3) := by decide +kernel
theorem dX11_isThere_5 : decode cX11_isThere 5 = .ok (.getfield 67, 3) := by decide +kernel
theorem dX11_isThere_8 : decode cX11_isThere 8 = .ok (.invokestatic 59, 3) := by decide +kernel
theorem dX11_isThere_11 : decode cX11_isThere 11 = .ok (.ireturn, 1) := by decide +kernel
theorem dX11_refuse_0 : decode cX11_refuse 0 = .ok (.bipush (-2), 2) := by decide +kernel
theorem dX11_refuse_2 : decode cX11_refuse 2 = .ok (.iload_n 1, 1) := by decide +kernel
theorem dX11_refuse_3 : decode cX11_refuse 3 = .ok (.isub, 1) := by decide +kernel
theorem dX11_refuse_4 : decode cX11_refuse 4 = .ok (.istore_n 2, 1) := by decide +kernel
theorem dX11_refuse_5 : decode cX11_refuse 5 = .ok (.iload_n 2, 1) := by decide +kernel
theorem dX11_refuse_6 : decode cX11_refuse 6 = .ok (.aload_n 0, 1) := by decide +kernel
theorem dX11_refuse_7 : decode cX11_refuse 7 = .ok (.getfield 55, 3) := by decide +kernel
theorem dX11_refuse_10 : decode cX11_refuse 10 = .ok (.arraylength, 1) := by decide +kernel
theorem dX11_refuse_11 : decode cX11_refuse 11 = .ok (.invokestatic 59, 3) := by decide +kernel
theorem dX11_refuse_14 : decode cX11_refuse 14 = .ok (.ifCond .eq 13, 3) := by decide +kernel
theorem dX11_refuse_17 : decode cX11_refuse 17 = .ok (.aload_n 0, 1) := by decide +kernel
theorem dX11_refuse_18 : decode cX11_refuse 18 = .ok (.getfield 55, 3) := by decide +kernel
theorem dX11_refuse_21 : decode cX11_refuse 21 = .ok (.iload_n 2, 1) := by decide +kernel
theorem dX11_refuse_22 : decode cX11_refuse 22 = .ok (.dup2, 1) := by decide +kernel
theorem dX11_refuse_23 : decode cX11_refuse 23 = .ok (.iaload, 1) := by decide +kernel
theorem dX11_refuse_24 : decode cX11_refuse 24 = .ok (.iconst 1, 1) := by decide +kernel
theorem dX11_refuse_25 : decode cX11_refuse 25 = .ok (.iadd, 1) := by decide +kernel
theorem dX11_refuse_26 : decode cX11_refuse 26 = .ok (.iastore, 1) := by decide +kernel
theorem dX11_refuse_27 : decode cX11_refuse 27 = .ok (.iload_n 1, 1) := by decide +kernel
theorem dX11_refuse_28 : decode cX11_refuse 28 = .ok (.ireturn, 1) := by decide +kernel
theorem dX11_amount_0 : decode cX11_amount 0 = .ok (.iload_n 1, 1) := by decide +kernel
theorem dX11_amount_1 : decode cX11_amount 1 = .ok (.tableswitch 93 0 5 #[39, 47, 55, 69, 77, 85], 39) := by decide +kernel
theorem dX11_amount_40 : decode cX11_amount 40 = .ok (.aload_n 0, 1) := by decide +kernel
theorem dX11_amount_41 : decode cX11_amount 41 = .ok (.getfield 10, 3) := by decide +kernel
theorem dX11_amount_44 : decode cX11_amount 44 = .ok (.getfield 67, 3) := by decide +kernel
theorem dX11_amount_47 : decode cX11_amount 47 = .ok (.ireturn, 1) := by decide +kernel
theorem dX11_amount_48 : decode cX11_amount 48 = .ok (.aload_n 0, 1) := by decide +kernel
theorem dX11_amount_49 : decode cX11_amount 49 = .ok (.getfield 10, 3) := by decide +kernel
theorem dX11_amount_52 : decode cX11_amount 52 = .ok (.getfield 117, 3) := by decide +kernel
theorem dX11_amount_55 : decode cX11_amount 55 = .ok (.ireturn, 1) := by decide +kernel
theorem dX11_amount_56 : decode cX11_amount 56 = .ok (.aload_n 0, 1) := by decide +kernel
theorem dX11_amount_57 : decode cX11_amount 57 = .ok (.getfield 10, 3) := by decide +kernel
theorem dX11_amount_60 : decode cX11_amount 60 = .ok (.getfield 107, 3) := by decide +kernel
theorem dX11_amount_63 : decode cX11_amount 63 = .ok (.invokestatic 230, 3) := by decide +kernel
theorem dX11_amount_66 : decode cX11_amount 66 = .ok (.invokestatic 132, 3) := by decide +kernel
theorem dX11_amount_69 : decode cX11_amount 69 = .ok (.ireturn, 1) := by decide +kernel
theorem dX11_amount_70 : decode cX11_amount 70 = .ok (.aload_n 0, 1) := by decide +kernel
theorem dX11_amount_71 : decode cX11_amount 71 = .ok (.getfield 10, 3) := by decide +kernel
theorem dX11_amount_74 : decode cX11_amount 74 = .ok (.getfield 157, 3) := by decide +kernel
theorem dX11_amount_77 : decode cX11_amount 77 = .ok (.ireturn, 1) := by decide +kernel
theorem dX11_amount_78 : decode cX11_amount 78 = .ok (.aload_n 0, 1) := by decide +kernel
theorem dX11_amount_79 : decode cX11_amount 79 = .ok (.getfield 10, 3) := by decide +kernel
theorem dX11_amount_82 : decode cX11_amount 82 = .ok (.getfield 183, 3) := by decide +kernel
theorem dX11_amount_85 : decode cX11_amount 85 = .ok (.ireturn, 1) := by decide +kernel
theorem dX11_amount_86 : decode cX11_amount 86 = .ok (.aload_n 0, 1) := by decide +kernel
theorem dX11_amount_87 : decode cX11_amount 87 = .ok (.getfield 10, 3) := by decide +kernel
theorem dX11_amount_90 : decode cX11_amount 90 = .ok (.getfield 120, 3) := by decide +kernel
theorem dX11_amount_93 : decode cX11_amount 93 = .ok (.ireturn, 1) := by decide +kernel
theorem dX11_amount_94 : decode cX11_amount 94 = .ok (.aload_n 0, 1) := by decide +kernel
theorem dX11_amount_95 : decode cX11_amount 95 = .ok (.getfield 30, 3) := by decide +kernel
theorem dX11_amount_98 : decode cX11_amount 98 = .ok (.getfield 79, 3) := by decide +kernel
theorem dX11_amount_101 : decode cX11_amount 101 = .ok (.ireturn, 1) := by decide +kernel
theorem dX11_turnersAt_0 : decode cX11_turnersAt 0 = .ok (.aload_n 0, 1) := by decide +kernel
theorem dX11_turnersAt_1 : decode cX11_turnersAt 1 = .ok (.getfield 44, 3) := by decide +kernel
theorem dX11_turnersAt_4 : decode cX11_turnersAt 4 = .ok (.aload_n 0, 1) := by decide +kernel
theorem dX11_turnersAt_5 : decode cX11_turnersAt 5 = .ok (.getfield 10, 3) := by decide +kernel
theorem dX11_turnersAt_8 : decode cX11_turnersAt 8 = .ok (.iload_n 2, 1) := by decide +kernel
theorem dX11_turnersAt_9 : decode cX11_turnersAt 9 = .ok (.invokevirtual 234, 3) := by decide +kernel
theorem dX11_turnersAt_12 : decode cX11_turnersAt 12 = .ok (.aload_n 0, 1) := by decide +kernel
theorem dX11_turnersAt_13 : decode cX11_turnersAt 13 = .ok (.getfield 44, 3) := by decide +kernel
theorem dX11_turnersAt_16 : decode cX11_turnersAt 16 = .ok (.aload_n 0, 1) := by decide +kernel
theorem dX11_turnersAt_17 : decode cX11_turnersAt 17 = .ok (.getfield 10, 3) := by decide +kernel
theorem dX11_turnersAt_20 : decode cX11_turnersAt 20 = .ok (.getfield 107, 3) := by decide +kernel
theorem dX11_turnersAt_23 : decode cX11_turnersAt 23 = .ok (.iload_n 1, 1) := by decide +kernel
theorem dX11_turnersAt_24 : decode cX11_turnersAt 24 = .ok (.iload_n 2, 1) := by decide +kernel
theorem dX11_turnersAt_25 : decode cX11_turnersAt 25 = .ok (.invokevirtual 238, 3) := by decide +kernel
theorem dX11_turnersAt_28 : decode cX11_turnersAt 28 = .ok (.ireturn, 1) := by decide +kernel
theorem dX11_settle_0 : decode cX11_settle 0 = .ok (.iload_n 2, 1) := by decide +kernel
theorem dX11_settle_1 : decode cX11_settle 1 = .ok (.ifCond .eq 12, 3) := by decide +kernel
theorem dX11_settle_4 : decode cX11_settle 4 = .ok (.iload_n 1, 1) := by decide +kernel
theorem dX11_settle_5 : decode cX11_settle 5 = .ok (.aload_n 0, 1) := by decide +kernel
theorem dX11_settle_6 : decode cX11_settle 6 = .ok (.arraylength, 1) := by decide +kernel
theorem dX11_settle_7 : decode cX11_settle 7 = .ok (.invokestatic 59, 3) := by decide +kernel
theorem dX11_settle_10 : decode cX11_settle 10 = .ok (.ifCond .ne 4, 3) := by decide +kernel
theorem dX11_settle_13 : decode cX11_settle 13 = .ok (.return_, 1) := by decide +kernel
theorem dX11_settle_14 : decode cX11_settle 14 = .ok (.iconst 0, 1) := by decide +kernel
theorem dX11_settle_15 : decode cX11_settle 15 = .ok (.istore_n 3, 1) := by decide +kernel
theorem dX11_settle_16 : decode cX11_settle 16 = .ok (.iload_n 3, 1) := by decide +kernel
theorem dX11_settle_17 : decode cX11_settle 17 = .ok (.aload_n 0, 1) := by decide +kernel
theorem dX11_settle_18 : decode cX11_settle 18 = .ok (.arraylength, 1) := by decide +kernel
theorem dX11_settle_19 : decode cX11_settle 19 = .ok (.if_icmp .ge 18, 3) := by decide +kernel
theorem dX11_settle_22 : decode cX11_settle 22 = .ok (.aload_n 0, 1) := by decide +kernel
theorem dX11_settle_23 : decode cX11_settle 23 = .ok (.iload_n 3, 1) := by decide +kernel
theorem dX11_settle_24 : decode cX11_settle 24 = .ok (.dup2, 1) := by decide +kernel
theorem dX11_settle_25 : decode cX11_settle 25 = .ok (.iaload, 1) := by decide +kernel
theorem dX11_settle_26 : decode cX11_settle 26 = .ok (.iload_n 2, 1) := by decide +kernel
theorem dX11_settle_27 : decode cX11_settle 27 = .ok (.iconst (-1), 1) := by decide +kernel
theorem dX11_settle_28 : decode cX11_settle 28 = .ok (.ixor, 1) := by decide +kernel
theorem dX11_settle_29 : decode cX11_settle 29 = .ok (.iand, 1) := by decide +kernel
theorem dX11_settle_30 : decode cX11_settle 30 = .ok (.iastore, 1) := by decide +kernel
theorem dX11_settle_31 : decode cX11_settle 31 = .ok (.iinc 3 1, 3) := by decide +kernel
theorem dX11_settle_34 : decode cX11_settle 34 = .ok (.goto (-18), 3) := by decide +kernel
theorem dX11_settle_37 : decode cX11_settle 37 = .ok (.aload_n 0, 1) := by decide +kernel
theorem dX11_settle_38 : decode cX11_settle 38 = .ok (.iload_n 1, 1) := by decide +kernel
theorem dX11_settle_39 : decode cX11_settle 39 = .ok (.iload_n 2, 1) := by decide +kernel
theorem dX11_settle_40 : decode cX11_settle 40 = .ok (.iastore, 1) := by decide +kernel
theorem dX11_settle_41 : decode cX11_settle 41 = .ok (.return_, 1) := by decide +kernel
theorem dX11_bearersBehind_0 : decode cX11_bearersBehind 0 = .ok (.iload_n 1, 1) := by decide +kernel
theorem dX11_bearersBehind_1 : decode cX11_bearersBehind 1 = .ok (.ifCond .ne 7, 3) := by decide +kernel
theorem dX11_bearersBehind_4 : decode cX11_bearersBehind 4 = .ok (.iload_n 0, 1) := by decide +kernel
theorem dX11_bearersBehind_5 : decode cX11_bearersBehind 5 = .ok (.goto 4, 3) := by decide +kernel
theorem dX11_bearersBehind_8 : decode cX11_bearersBehind 8 = .ok (.iload_n 1, 1) := by decide +kernel
theorem dX11_bearersBehind_9 : decode cX11_bearersBehind 9 = .ok (.ireturn, 1) := by decide +kernel
theorem dX11_owners_0 : decode cX11_owners 0 = .ok (.iconst 0, 1) := by decide +kernel
theorem dX11_owners_1 : decode cX11_owners 1 = .ok (.istore_n 1, 1) := by decide +kernel
theorem dX11_owners_2 : decode cX11_owners 2 = .ok (.iconst 0, 1) := by decide +kernel
theorem dX11_owners_3 : decode cX11_owners 3 = .ok (.istore_n 2, 1) := by decide +kernel
theorem dX11_owners_4 : decode cX11_owners 4 = .ok (.iload_n 2, 1) := by decide +kernel
theorem dX11_owners_5 : decode cX11_owners 5 = .ok (.aload_n 0, 1) := by decide +kernel
theorem dX11_owners_6 : decode cX11_owners 6 = .ok (.arraylength, 1) := by decide +kernel
theorem dX11_owners_7 : decode cX11_owners 7 = .ok (.if_icmp .ge 19, 3) := by decide +kernel
theorem dX11_owners_10 : decode cX11_owners 10 = .ok (.iload_n 1, 1) := by decide +kernel
theorem dX11_owners_11 : decode cX11_owners 11 = .ok (.aload_n 0, 1) := by decide +kernel
theorem dX11_owners_12 : decode cX11_owners 12 = .ok (.iload_n 2, 1) := by decide +kernel
theorem dX11_owners_13 : decode cX11_owners 13 = .ok (.iaload, 1) := by decide +kernel
theorem dX11_owners_14 : decode cX11_owners 14 = .ok (.iconst 1, 1) := by decide +kernel
theorem dX11_owners_15 : decode cX11_owners 15 = .ok (.iload_n 2, 1) := by decide +kernel
theorem dX11_owners_16 : decode cX11_owners 16 = .ok (.ishl, 1) := by decide +kernel
theorem dX11_owners_17 : decode cX11_owners 17 = .ok (.iand, 1) := by decide +kernel
theorem dX11_owners_18 : decode cX11_owners 18 = .ok (.ior, 1) := by decide +kernel
theorem dX11_owners_19 : decode cX11_owners 19 = .ok (.istore_n 1, 1) := by decide +kernel
theorem dX11_owners_20 : decode cX11_owners 20 = .ok (.iinc 2 1, 3) := by decide +kernel
theorem dX11_owners_23 : decode cX11_owners 23 = .ok (.goto (-19), 3) := by decide +kernel
theorem dX11_owners_26 : decode cX11_owners 26 = .ok (.iload_n 1, 1) := by decide +kernel
theorem dX11_owners_27 : decode cX11_owners 27 = .ok (.ireturn, 1) := by decide +kernel
theorem dX11_stopped_0 : decode cX11_stopped 0 = .ok (.iload_n 0, 1) := by decide +kernel
theorem dX11_stopped_1 : decode cX11_stopped 1 = .ok (.iconst 0, 1) := by decide +kernel
theorem dX11_stopped_2 : decode cX11_stopped 2 = .ok (.invokestatic 180, 3) := by decide +kernel
theorem dX11_stopped_5 : decode cX11_stopped 5 = .ok (.iload_n 1, 1) := by decide +kernel
theorem dX11_stopped_6 : decode cX11_stopped 6 = .ok (.ishl, 1) := by decide +kernel
theorem dX11_stopped_7 : decode cX11_stopped 7 = .ok (.iload_n 0, 1) := by decide +kernel
theorem dX11_stopped_8 : decode cX11_stopped 8 = .ok (.iconst 1, 1) := by decide +kernel
theorem dX11_stopped_9 : decode cX11_stopped 9 = .ok (.invokestatic 180, 3) := by decide +kernel
theorem dX11_stopped_12 : decode cX11_stopped 12 = .ok (.iload_n 2, 1) := by decide +kernel
theorem dX11_stopped_13 : decode cX11_stopped 13 = .ok (.ishl, 1) := by decide +kernel
theorem dX11_stopped_14 : decode cX11_stopped 14 = .ok (.ior, 1) := by decide +kernel
theorem dX11_stopped_15 : decode cX11_stopped 15 = .ok (.ireturn, 1) := by decide +kernel
theorem dX11_fits_0 : decode cX11_fits 0 = .ok (.iconst 0, 1) := by decide +kernel
theorem dX11_fits_1 : decode cX11_fits 1 = .ok (.istore 4, 2) := by decide +kernel
theorem dX11_fits_3 : decode cX11_fits 3 = .ok (.iload 4, 2) := by decide +kernel
theorem dX11_fits_5 : decode cX11_fits 5 = .ok (.aload_n 0, 1) := by decide +kernel
theorem dX11_fits_6 : decode cX11_fits 6 = .ok (.getfield 10, 3) := by decide +kernel
theorem dX11_fits_9 : decode cX11_fits 9 = .ok (.getfield 183, 3) := by decide +kernel
theorem dX11_fits_12 : decode cX11_fits 12 = .ok (.if_icmp .ge 122, 3) := by decide +kernel
theorem dX11_fits_15 : decode cX11_fits 15 = .ok (.iload 4, 2) := by decide +kernel
theorem dX11_fits_17 : decode cX11_fits 17 = .ok (.iconst 5, 1) := by decide +kernel
theorem dX11_fits_18 : decode cX11_fits 18 = .ok (.imul, 1) := by decide +kernel
theorem dX11_fits_19 : decode cX11_fits 19 = .ok (.istore 5, 2) := by decide +kernel
theorem dX11_fits_21 : decode cX11_fits 21 = .ok (.aload_n 0, 1) := by decide +kernel
theorem dX11_fits_22 : decode cX11_fits 22 = .ok (.getfield 10, 3) := by decide +kernel
theorem dX11_fits_25 : decode cX11_fits 25 = .ok (.getfield 242, 3) := by decide +kernel
theorem dX11_fits_28 : decode cX11_fits 28 = .ok (.iload 5, 2) := by decide +kernel
theorem dX11_fits_30 : decode cX11_fits 30 = .ok (.iaload, 1) := by decide +kernel
theorem dX11_fits_31 : decode cX11_fits 31 = .ok (.iload_n 1, 1) := by decide +kernel
theorem dX11_fits_32 : decode cX11_fits 32 = .ok (.if_icmp .ne 96, 3) := by decide +kernel
theorem dX11_fits_35 : decode cX11_fits 35 = .ok (.iload_n 3, 1) := by decide +kernel
theorem dX11_fits_36 : decode cX11_fits 36 = .ok (.aload_n 0, 1) := by decide +kernel
theorem dX11_fits_37 : decode cX11_fits 37 = .ok (.getfield 10, 3) := by decide +kernel
theorem dX11_fits_40 : decode cX11_fits 40 = .ok (.getfield 242, 3) := by decide +kernel
theorem dX11_fits_43 : decode cX11_fits 43 = .ok (.iload 5, 2) := by decide +kernel
theorem dX11_fits_45 : decode cX11_fits 45 = .ok (.iconst 1, 1) := by decide +kernel
theorem dX11_fits_46 : decode cX11_fits 46 = .ok (.iadd, 1) := by decide +kernel
theorem dX11_fits_47 : decode cX11_fits 47 = .ok (.iaload, 1) := by decide +kernel
theorem dX11_fits_48 : decode cX11_fits 48 = .ok (.isub, 1) := by decide +kernel
theorem dX11_fits_49 : decode cX11_fits 49 = .ok (.invokestatic 245, 3) := by decide +kernel
theorem dX11_fits_52 : decode cX11_fits 52 = .ok (.istore 6, 2) := by decide +kernel
theorem dX11_fits_54 : decode cX11_fits 54 = .ok (.aload_n 0, 1) := by decide +kernel
theorem dX11_fits_55 : decode cX11_fits 55 = .ok (.getfield 44, 3) := by decide +kernel
theorem dX11_fits_58 : decode cX11_fits 58 = .ok (.iload_n 2, 1) := by decide +kernel
theorem dX11_fits_59 : decode cX11_fits 59 = .ok (.iload 6, 2) := by decide +kernel
theorem dX11_fits_61 : decode cX11_fits 61 = .ok (.aload_n 0, 1) := by decide +kernel
theorem dX11_fits_62 : decode cX11_fits 62 = .ok (.getfield 10, 3) := by decide +kernel
theorem dX11_fits_65 : decode cX11_fits 65 = .ok (.getfield 242, 3) := by decide +kernel
theorem dX11_fits_68 : decode cX11_fits 68 = .ok (.iload 5, 2) := by decide +kernel
theorem dX11_fits_70 : decode cX11_fits 70 = .ok (.iconst 3, 1) := by decide +kernel
theorem dX11_fits_71 : decode cX11_fits 71 = .ok (.iadd, 1) := by decide +kernel
theorem dX11_fits_72 : decode cX11_fits 72 = .ok (.iaload, 1) := by decide +kernel
theorem dX11_fits_73 : decode cX11_fits 73 = .ok (.iconst 1, 1) := by decide +kernel
theorem dX11_fits_74 : decode cX11_fits 74 = .ok (.if_icmp .ne 7, 3) := by decide +kernel
theorem dX11_fits_77 : decode cX11_fits 77 = .ok (.iconst 1, 1) := by decide +kernel
theorem dX11_fits_78 : decode cX11_fits 78 = .ok (.goto 4, 3) := by decide +kernel
theorem dX11_fits_81 : decode cX11_fits 81 = .ok (.iconst 0, 1) := by decide +kernel
theorem dX11_fits_82 : decode cX11_fits 82 = .ok (.iconst 0, 1) := by decide +kernel
theorem dX11_fits_83 : decode cX11_fits 83 = .ok (.aload_n 0, 1) := by decide +kernel
theorem dX11_fits_84 : decode cX11_fits 84 = .ok (.getfield 10, 3) := by decide +kernel
theorem dX11_fits_87 : decode cX11_fits 87 = .ok (.getfield 242, 3) := by decide +kernel
theorem dX11_fits_90 : decode cX11_fits 90 = .ok (.iload 5, 2) := by decide +kernel
theorem dX11_fits_92 : decode cX11_fits 92 = .ok (.iconst 2, 1) := by decide +kernel
theorem dX11_fits_93 : decode cX11_fits 93 = .ok (.iadd, 1) := by decide +kernel
theorem dX11_fits_94 : decode cX11_fits 94 = .ok (.iaload, 1) := by decide +kernel
theorem dX11_fits_95 : decode cX11_fits 95 = .ok (.invokevirtual 248, 3) := by decide +kernel
theorem dX11_fits_98 : decode cX11_fits 98 = .ok (.istore 7, 2) := by decide +kernel
theorem dX11_fits_100 : decode cX11_fits 100 = .ok (.iload 7, 2) := by decide +kernel
theorem dX11_fits_102 : decode cX11_fits 102 = .ok (.aload_n 0, 1) := by decide +kernel
theorem dX11_fits_103 : decode cX11_fits 103 = .ok (.getfield 10, 3) := by decide +kernel
theorem dX11_fits_106 : decode cX11_fits 106 = .ok (.getfield 242, 3) := by decide +kernel
theorem dX11_fits_109 : decode cX11_fits 109 = .ok (.iload 5, 2) := by decide +kernel
theorem dX11_fits_111 : decode cX11_fits 111 = .ok (.iconst 4, 1) := by decide +kernel
theorem dX11_fits_112 : decode cX11_fits 112 = .ok (.iadd, 1) := by decide +kernel
theorem dX11_fits_113 : decode cX11_fits 113 = .ok (.iaload, 1) := by decide +kernel
theorem dX11_fits_114 : decode cX11_fits 114 = .ok (.iconst 1, 1) := by decide +kernel
theorem dX11_fits_115 : decode cX11_fits 115 = .ok (.if_icmp .ne 7, 3) := by decide +kernel
theorem dX11_fits_118 : decode cX11_fits 118 = .ok (.iconst 1, 1) := by decide +kernel
theorem dX11_fits_119 : decode cX11_fits 119 = .ok (.goto 4, 3) := by decide +kernel
theorem dX11_fits_122 : decode cX11_fits 122 = .ok (.iconst 0, 1) := by decide +kernel
theorem dX11_fits_123 : decode cX11_fits 123 = .ok (.if_icmp .eq 5, 3) := by decide +kernel
theorem dX11_fits_126 : decode cX11_fits 126 = .ok (.iconst 0, 1) := by decide +kernel
theorem dX11_fits_127 : decode cX11_fits 127 = .ok (.ireturn, 1) := by decide +kernel
theorem dX11_fits_128 : decode cX11_fits 128 = .ok (.iinc 4 1, 3) := by decide +kernel
theorem dX11_fits_131 : decode cX11_fits 131 = .ok (.goto (-128), 3) := by decide +kernel
theorem dX11_fits_134 : decode cX11_fits 134 = .ok (.iconst 1, 1) := by decide +kernel
theorem dX11_fits_135 : decode cX11_fits 135 = .ok (.ireturn, 1) := by decide +kernel
theorem dX11_placesThatFit_0 : decode cX11_placesThatFit 0 = .ok (.iconst 0, 1) := by decide +kernel
theorem dX11_placesThatFit_1 : decode cX11_placesThatFit 1 = .ok (.istore_n 2, 1) := by decide +kernel
theorem dX11_placesThatFit_2 : decode cX11_placesThatFit 2 = .ok (.iconst 0, 1) := by decide +kernel
theorem dX11_placesThatFit_3 : decode cX11_placesThatFit 3 = .ok (.istore_n 3, 1) := by decide +kernel
theorem dX11_placesThatFit_4 : decode cX11_placesThatFit 4 = .ok (.iload_n 3, 1) := by decide +kernel
theorem dX11_placesThatFit_5 : decode cX11_placesThatFit 5 = .ok (.bipush 10, 2) := by decide +kernel
theorem dX11_placesThatFit_7 : decode cX11_placesThatFit 7 = .ok (.if_icmp .ge 33, 3) := by decide +kernel
theorem dX11_placesThatFit_10 : decode cX11_placesThatFit 10 = .ok (.aload_n 0, 1) := by decide +kernel
theorem dX11_placesThatFit_11 : decode cX11_placesThatFit 11 = .ok (.iload_n 1, 1) := by decide +kernel
theorem dX11_placesThatFit_12 : decode cX11_placesThatFit 12 = .ok (.aload_n 0, 1) := by decide +kernel
theorem dX11_placesThatFit_13 : decode cX11_placesThatFit 13 = .ok (.getfield 10, 3) := by decide +kernel
theorem dX11_placesThatFit_16 : decode cX11_placesThatFit 16 = .ok (.getfield 126, 3) := by decide +kernel
theorem dX11_placesThatFit_19 : decode cX11_placesThatFit 19 = .ok (.iload_n 1, 1) := by decide +kernel
theorem dX11_placesThatFit_20 : decode cX11_placesThatFit 20 = .ok (.iaload, 1) := by decide +kernel
theorem dX11_placesThatFit_21 : decode cX11_placesThatFit 21 = .ok (.iload_n 3, 1) := by decide +kernel
theorem dX11_placesThatFit_22 : decode cX11_placesThatFit 22 = .ok (.invokevirtual 190, 3) := by decide +kernel
theorem dX11_placesThatFit_25 : decode cX11_placesThatFit 25 = .ok (.ifCond .eq 9, 3) := by decide +kernel
theorem dX11_placesThatFit_28 : decode cX11_placesThatFit 28 = .ok (.iload_n 2, 1) := by decide +kernel
theorem dX11_placesThatFit_29 : decode cX11_placesThatFit 29 = .ok (.iconst 1, 1) := by decide +kernel
theorem dX11_placesThatFit_30 : decode cX11_placesThatFit 30 = .ok (.iload_n 3, 1) := by decide +kernel
theorem dX11_placesThatFit_31 : decode cX11_placesThatFit 31 = .ok (.ishl, 1) := by decide +kernel
theorem dX11_placesThatFit_32 : decode cX11_placesThatFit 32 = .ok (.ior, 1) := by decide +kernel
theorem dX11_placesThatFit_33 : decode cX11_placesThatFit 33 = .ok (.istore_n 2, 1) := by decide +kernel
theorem dX11_placesThatFit_34 : decode cX11_placesThatFit 34 = .ok (.iinc 3 1, 3) := by decide +kernel
theorem dX11_placesThatFit_37 : decode cX11_placesThatFit 37 = .ok (.goto (-33), 3) := by decide +kernel
theorem dX11_placesThatFit_40 : decode cX11_placesThatFit 40 = .ok (.iload_n 2, 1) := by decide +kernel
theorem dX11_placesThatFit_41 : decode cX11_placesThatFit 41 = .ok (.ireturn, 1) := by decide +kernel
theorem dX11_placesTurningAt_0 : decode cX11_placesTurningAt 0 = .ok (.iconst 0, 1) := by decide +kernel
theorem dX11_placesTurningAt_1 : decode cX11_placesTurningAt 1 = .ok (.istore_n 3, 1) := by decide +kernel
theorem dX11_placesTurningAt_2 : decode cX11_placesTurningAt 2 = .ok (.iconst 0, 1) := by decide +kernel
theorem dX11_placesTurningAt_3 : decode cX11_placesTurningAt 3 = .ok (.istore 4, 2) := by decide +kernel
theorem dX11_placesTurningAt_5 : decode cX11_placesTurningAt 5 = .ok (.iload 4, 2) := by decide +kernel
theorem dX11_placesTurningAt_7 : decode cX11_placesTurningAt 7 = .ok (.bipush 10, 2) := by decide +kernel
theorem dX11_placesTurningAt_9 : decode cX11_placesTurningAt 9 = .ok (.if_icmp .ge 51, 3) := by decide +kernel
theorem dX11_placesTurningAt_12 : decode cX11_placesTurningAt 12 = .ok (.aload_n 0, 1) := by decide +kernel
theorem dX11_placesTurningAt_13 : decode cX11_placesTurningAt 13 = .ok (.getfield 44, 3) := by decide +kernel
theorem dX11_placesTurningAt_16 : decode cX11_placesTurningAt 16 = .ok (.aload_n 0, 1) := by decide +kernel
theorem dX11_placesTurningAt_17 : decode cX11_placesTurningAt 17 = .ok (.getfield 10, 3) := by decide +kernel
theorem dX11_placesTurningAt_20 : decode cX11_placesTurningAt 20 = .ok (.getfield 126, 3) := by decide +kernel
theorem dX11_placesTurningAt_23 : decode cX11_placesTurningAt 23 = .ok (.iload_n 1, 1) := by decide +kernel
theorem dX11_placesTurningAt_24 : decode cX11_placesTurningAt 24 = .ok (.iaload, 1) := by decide +kernel
theorem dX11_placesTurningAt_25 : decode cX11_placesTurningAt 25 = .ok (.iload 4, 2) := by decide +kernel
theorem dX11_placesTurningAt_27 : decode cX11_placesTurningAt 27 = .ok (.iload_n 2, 1) := by decide +kernel
theorem dX11_placesTurningAt_28 : decode cX11_placesTurningAt 28 = .ok (.isub, 1) := by decide +kernel
theorem dX11_placesTurningAt_29 : decode cX11_placesTurningAt 29 = .ok (.invokestatic 245, 3) := by decide +kernel
theorem dX11_placesTurningAt_32 : decode cX11_placesTurningAt 32 = .ok (.iconst 0, 1) := by decide +kernel
theorem dX11_placesTurningAt_33 : decode cX11_placesTurningAt 33 = .ok (.iconst 0, 1) := by decide +kernel
theorem dX11_placesTurningAt_34 : decode cX11_placesTurningAt 34 = .ok (.aload_n 0, 1) := by decide +kernel
theorem dX11_placesTurningAt_35 : decode cX11_placesTurningAt 35 = .ok (.getfield 10, 3) := by decide +kernel
theorem dX11_placesTurningAt_38 : decode cX11_placesTurningAt 38 = .ok (.getfield 117, 3) := by decide +kernel
theorem dX11_placesTurningAt_41 : decode cX11_placesTurningAt 41 = .ok (.invokevirtual 248, 3) := by decide +kernel
theorem dX11_placesTurningAt_44 : decode cX11_placesTurningAt 44 = .ok (.ifCond .eq 10, 3) := by decide +kernel
theorem dX11_placesTurningAt_47 : decode cX11_placesTurningAt 47 = .ok (.iload_n 3, 1) := by decide +kernel
theorem dX11_placesTurningAt_48 : decode cX11_placesTurningAt 48 = .ok (.iconst 1, 1) := by decide +kernel
theorem dX11_placesTurningAt_49 : decode cX11_placesTurningAt 49 = .ok (.iload 4, 2) := by decide +kernel
theorem dX11_placesTurningAt_51 : decode cX11_placesTurningAt 51 = .ok (.ishl, 1) := by decide +kernel
theorem dX11_placesTurningAt_52 : decode cX11_placesTurningAt 52 = .ok (.ior, 1) := by decide +kernel
theorem dX11_placesTurningAt_53 : decode cX11_placesTurningAt 53 = .ok (.istore_n 3, 1) := by decide +kernel
theorem dX11_placesTurningAt_54 : decode cX11_placesTurningAt 54 = .ok (.iinc 4 1, 3) := by decide +kernel
theorem dX11_placesTurningAt_57 : decode cX11_placesTurningAt 57 = .ok (.goto (-52), 3) := by decide +kernel
theorem dX11_placesTurningAt_60 : decode cX11_placesTurningAt 60 = .ok (.iload_n 3, 1) := by decide +kernel
theorem dX11_placesTurningAt_61 : decode cX11_placesTurningAt 61 = .ok (.ireturn, 1) := by decide +kernel
