theorem d_Mill_add_0 : decode b_Mill_add 0 = .ok (.iload_n 1, 1) := by decide +kernel
theorem d_Mill_add_1 : decode b_Mill_add 1 = .ok (.invokestatic 26, 3) := by decide +kernel
theorem d_Mill_add_4 : decode b_Mill_add 4 = .ok (.ifCond .eq 17, 3) := by decide +kernel
theorem d_Mill_add_7 : decode b_Mill_add 7 = .ok (.iload_n 2, 1) := by decide +kernel
theorem d_Mill_add_8 : decode b_Mill_add 8 = .ok (.invokestatic 26, 3) := by decide +kernel
theorem d_Mill_add_11 : decode b_Mill_add 11 = .ok (.ifCond .eq 10, 3) := by decide +kernel
theorem d_Mill_add_14 : decode b_Mill_add 14 = .ok (.iload_n 3, 1) := by decide +kernel
theorem d_Mill_add_15 : decode b_Mill_add 15 = .ok (.invokestatic 26, 3) := by decide +kernel
theorem d_Mill_add_18 : decode b_Mill_add 18 = .ok (.ifCond .ne 5, 3) := by decide +kernel
theorem d_Mill_add_21 : decode b_Mill_add 21 = .ok (.iconst 0, 1) := by decide +kernel
theorem d_Mill_add_22 : decode b_Mill_add 22 = .ok (.ireturn, 1) := by decide +kernel
theorem d_Mill_add_23 : decode b_Mill_add 23 = .ok (.aload_n 0, 1) := by decide +kernel
theorem d_Mill_add_24 : decode b_Mill_add 24 = .ok (.getfield 16, 3) := by decide +kernel
theorem d_Mill_add_27 : decode b_Mill_add 27 = .ok (.aload_n 0, 1) := by decide +kernel
theorem d_Mill_add_28 : decode b_Mill_add 28 = .ok (.getfield 11, 3) := by decide +kernel
theorem d_Mill_add_31 : decode b_Mill_add 31 = .ok (.iload_n 2, 1) := by decide +kernel
theorem d_Mill_add_32 : decode b_Mill_add 32 = .ok (.aaload, 1) := by decide +kernel
theorem d_Mill_add_33 : decode b_Mill_add 33 = .ok (.aload_n 0, 1) := by decide +kernel
theorem d_Mill_add_34 : decode b_Mill_add 34 = .ok (.getfield 11, 3) := by decide +kernel
theorem d_Mill_add_37 : decode b_Mill_add 37 = .ok (.iload_n 3, 1) := by decide +kernel
theorem d_Mill_add_38 : decode b_Mill_add 38 = .ok (.aaload, 1) := by decide +kernel
theorem d_Mill_add_39 : decode b_Mill_add 39 = .ok (.invokevirtual 54, 3) := by decide +kernel
theorem d_Mill_add_42 : decode b_Mill_add 42 = .ok (.aload_n 0, 1) := by decide +kernel
theorem d_Mill_add_43 : decode b_Mill_add 43 = .ok (.iload_n 1, 1) := by decide +kernel
theorem d_Mill_add_44 : decode b_Mill_add 44 = .ok (.invokevirtual 43, 3) := by decide +kernel
theorem d_Mill_add_47 : decode b_Mill_add 47 = .ok (.ireturn, 1) := by decide +kernel
theorem d_Mill_bits_0 : decode b_Mill_bits 0 = .ok (.iload_n 1, 1) := by decide +kernel
theorem d_Mill_bits_1 : decode b_Mill_bits 1 = .ok (.invokestatic 26, 3) := by decide +kernel
theorem d_Mill_bits_4 : decode b_Mill_bits 4 = .ok (.ifCond .eq 15, 3) := by decide +kernel
theorem d_Mill_bits_7 : decode b_Mill_bits 7 = .ok (.aload_n 0, 1) := by decide +kernel
theorem d_Mill_bits_8 : decode b_Mill_bits 8 = .ok (.getfield 11, 3) := by decide +kernel
theorem d_Mill_bits_11 : decode b_Mill_bits 11 = .ok (.iload_n 1, 1) := by decide +kernel
theorem d_Mill_bits_12 : decode b_Mill_bits 12 = .ok (.aaload, 1) := by decide +kernel
theorem d_Mill_bits_13 : decode b_Mill_bits 13 = .ok (.invokevirtual 30, 3) := by decide +kernel
theorem d_Mill_bits_16 : decode b_Mill_bits 16 = .ok (.goto 4, 3) := by decide +kernel
theorem d_Mill_bits_19 : decode b_Mill_bits 19 = .ok (.iconst (-1), 1) := by decide +kernel
theorem d_Mill_bits_20 : decode b_Mill_bits 20 = .ok (.ireturn, 1) := by decide +kernel
theorem d_Mill_compare_0 : decode b_Mill_compare 0 = .ok (.iload_n 1, 1) := by decide +kernel
theorem d_Mill_compare_1 : decode b_Mill_compare 1 = .ok (.invokestatic 26, 3) := by decide +kernel
theorem d_Mill_compare_4 : decode b_Mill_compare 4 = .ok (.ifCond .eq 28, 3) := by decide +kernel
theorem d_Mill_compare_7 : decode b_Mill_compare 7 = .ok (.iload_n 2, 1) := by decide +kernel
theorem d_Mill_compare_8 : decode b_Mill_compare 8 = .ok (.invokestatic 26, 3) := by decide +kernel
theorem d_Mill_compare_11 : decode b_Mill_compare 11 = .ok (.ifCond .eq 21, 3) := by decide +kernel
theorem d_Mill_compare_14 : decode b_Mill_compare 14 = .ok (.aload_n 0, 1) := by decide +kernel
theorem d_Mill_compare_15 : decode b_Mill_compare 15 = .ok (.getfield 11, 3) := by decide +kernel
theorem d_Mill_compare_18 : decode b_Mill_compare 18 = .ok (.iload_n 1, 1) := by decide +kernel
theorem d_Mill_compare_19 : decode b_Mill_compare 19 = .ok (.aaload, 1) := by decide +kernel
theorem d_Mill_compare_20 : decode b_Mill_compare 20 = .ok (.aload_n 0, 1) := by decide +kernel
theorem d_Mill_compare_21 : decode b_Mill_compare 21 = .ok (.getfield 11, 3) := by decide +kernel
theorem d_Mill_compare_24 : decode b_Mill_compare 24 = .ok (.iload_n 2, 1) := by decide +kernel
theorem d_Mill_compare_25 : decode b_Mill_compare 25 = .ok (.aaload, 1) := by decide +kernel
theorem d_Mill_compare_26 : decode b_Mill_compare 26 = .ok (.invokevirtual 58, 3) := by decide +kernel
theorem d_Mill_compare_29 : decode b_Mill_compare 29 = .ok (.goto 5, 3) := by decide +kernel
theorem d_Mill_compare_32 : decode b_Mill_compare 32 = .ok (.bipush (-2), 2) := by decide +kernel
theorem d_Mill_compare_34 : decode b_Mill_compare 34 = .ok (.ireturn, 1) := by decide +kernel
theorem d_Mill_copy_0 : decode b_Mill_copy 0 = .ok (.iload_n 1, 1) := by decide +kernel
theorem d_Mill_copy_1 : decode b_Mill_copy 1 = .ok (.invokestatic 26, 3) := by decide +kernel
theorem d_Mill_copy_4 : decode b_Mill_copy 4 = .ok (.ifCond .eq 10, 3) := by decide +kernel
theorem d_Mill_copy_7 : decode b_Mill_copy 7 = .ok (.iload_n 2, 1) := by decide +kernel
theorem d_Mill_copy_8 : decode b_Mill_copy 8 = .ok (.invokestatic 26, 3) := by decide +kernel
theorem d_Mill_copy_11 : decode b_Mill_copy 11 = .ok (.ifCond .ne 5, 3) := by decide +kernel
theorem d_Mill_copy_14 : decode b_Mill_copy 14 = .ok (.iconst 0, 1) := by decide +kernel
theorem d_Mill_copy_15 : decode b_Mill_copy 15 = .ok (.ireturn, 1) := by decide +kernel
theorem d_Mill_copy_16 : decode b_Mill_copy 16 = .ok (.aload_n 0, 1) := by decide +kernel
theorem d_Mill_copy_17 : decode b_Mill_copy 17 = .ok (.getfield 11, 3) := by decide +kernel
theorem d_Mill_copy_20 : decode b_Mill_copy 20 = .ok (.iload_n 1, 1) := by decide +kernel
theorem d_Mill_copy_21 : decode b_Mill_copy 21 = .ok (.aaload, 1) := by decide +kernel
theorem d_Mill_copy_22 : decode b_Mill_copy 22 = .ok (.aload_n 0, 1) := by decide +kernel
theorem d_Mill_copy_23 : decode b_Mill_copy 23 = .ok (.getfield 11, 3) := by decide +kernel
theorem d_Mill_copy_26 : decode b_Mill_copy 26 = .ok (.iload_n 2, 1) := by decide +kernel
theorem d_Mill_copy_27 : decode b_Mill_copy 27 = .ok (.aaload, 1) := by decide +kernel
theorem d_Mill_copy_28 : decode b_Mill_copy 28 = .ok (.invokevirtual 50, 3) := by decide +kernel
theorem d_Mill_copy_31 : decode b_Mill_copy 31 = .ok (.iconst 1, 1) := by decide +kernel
theorem d_Mill_copy_32 : decode b_Mill_copy 32 = .ok (.ireturn, 1) := by decide +kernel
theorem d_Mill_divide_0 : decode b_Mill_divide 0 = .ok (.iload_n 1, 1) := by decide +kernel
theorem d_Mill_divide_1 : decode b_Mill_divide 1 = .ok (.invokestatic 26, 3) := by decide +kernel
theorem d_Mill_divide_4 : decode b_Mill_divide 4 = .ok (.ifCond .eq 25, 3) := by decide +kernel
theorem d_Mill_divide_7 : decode b_Mill_divide 7 = .ok (.iload_n 2, 1) := by decide +kernel
theorem d_Mill_divide_8 : decode b_Mill_divide 8 = .ok (.invokestatic 26, 3) := by decide +kernel
theorem d_Mill_divide_11 : decode b_Mill_divide 11 = .ok (.ifCond .eq 18, 3) := by decide +kernel
theorem d_Mill_divide_14 : decode b_Mill_divide 14 = .ok (.iload_n 3, 1) := by decide +kernel
theorem d_Mill_divide_15 : decode b_Mill_divide 15 = .ok (.invokestatic 26, 3) := by decide +kernel
theorem d_Mill_divide_18 : decode b_Mill_divide 18 = .ok (.ifCond .eq 11, 3) := by decide +kernel
theorem d_Mill_divide_21 : decode b_Mill_divide 21 = .ok (.iload 4, 2) := by decide +kernel
theorem d_Mill_divide_23 : decode b_Mill_divide 23 = .ok (.invokestatic 26, 3) := by decide +kernel
theorem d_Mill_divide_26 : decode b_Mill_divide 26 = .ok (.ifCond .ne 5, 3) := by decide +kernel
theorem d_Mill_divide_29 : decode b_Mill_divide 29 = .ok (.iconst 0, 1) := by decide +kernel
theorem d_Mill_divide_30 : decode b_Mill_divide 30 = .ok (.ireturn, 1) := by decide +kernel
theorem d_Mill_divide_31 : decode b_Mill_divide 31 = .ok (.iload_n 1, 1) := by decide +kernel
theorem d_Mill_divide_32 : decode b_Mill_divide 32 = .ok (.iload_n 2, 1) := by decide +kernel
theorem d_Mill_divide_33 : decode b_Mill_divide 33 = .ok (.if_icmp .eq 16, 3) := by decide +kernel
theorem d_Mill_divide_36 : decode b_Mill_divide 36 = .ok (.aload_n 0, 1) := by decide +kernel
theorem d_Mill_divide_37 : decode b_Mill_divide 37 = .ok (.getfield 11, 3) := by decide +kernel
theorem d_Mill_divide_40 : decode b_Mill_divide 40 = .ok (.iload 4, 2) := by decide +kernel
theorem d_Mill_divide_42 : decode b_Mill_divide 42 = .ok (.aaload, 1) := by decide +kernel
theorem d_Mill_divide_43 : decode b_Mill_divide 43 = .ok (.getfield 69, 3) := by decide +kernel
theorem d_Mill_divide_46 : decode b_Mill_divide 46 = .ok (.ifCond .ne 5, 3) := by decide +kernel
theorem d_Mill_divide_49 : decode b_Mill_divide 49 = .ok (.iconst 0, 1) := by decide +kernel
theorem d_Mill_divide_50 : decode b_Mill_divide 50 = .ok (.ireturn, 1) := by decide +kernel
theorem d_Mill_divide_51 : decode b_Mill_divide 51 = .ok (.aload_n 0, 1) := by decide +kernel
theorem d_Mill_divide_52 : decode b_Mill_divide 52 = .ok (.getfield 11, 3) := by decide +kernel
theorem d_Mill_divide_55 : decode b_Mill_divide 55 = .ok (.iload_n 3, 1) := by decide +kernel
theorem d_Mill_divide_56 : decode b_Mill_divide 56 = .ok (.aaload, 1) := by decide +kernel
theorem d_Mill_divide_57 : decode b_Mill_divide 57 = .ok (.aload_n 0, 1) := by decide +kernel
theorem d_Mill_divide_58 : decode b_Mill_divide 58 = .ok (.getfield 11, 3) := by decide +kernel
theorem d_Mill_divide_61 : decode b_Mill_divide 61 = .ok (.iload 4, 2) := by decide +kernel
theorem d_Mill_divide_63 : decode b_Mill_divide 63 = .ok (.aaload, 1) := by decide +kernel
theorem d_Mill_divide_64 : decode b_Mill_divide 64 = .ok (.aload_n 0, 1) := by decide +kernel
theorem d_Mill_divide_65 : decode b_Mill_divide 65 = .ok (.getfield 16, 3) := by decide +kernel
theorem d_Mill_divide_68 : decode b_Mill_divide 68 = .ok (.aload_n 0, 1) := by decide +kernel
theorem d_Mill_divide_69 : decode b_Mill_divide 69 = .ok (.getfield 20, 3) := by decide +kernel
theorem d_Mill_divide_72 : decode b_Mill_divide 72 = .ok (.aload_n 0, 1) := by decide +kernel
theorem d_Mill_divide_73 : decode b_Mill_divide 73 = .ok (.getfield 23, 3) := by decide +kernel
theorem d_Mill_divide_76 : decode b_Mill_divide 76 = .ok (.invokestatic 73, 3) := by decide +kernel
theorem d_Mill_divide_79 : decode b_Mill_divide 79 = .ok (.aload_n 0, 1) := by decide +kernel
theorem d_Mill_divide_80 : decode b_Mill_divide 80 = .ok (.getfield 11, 3) := by decide +kernel
theorem d_Mill_divide_83 : decode b_Mill_divide 83 = .ok (.iload_n 1, 1) := by decide +kernel
theorem d_Mill_divide_84 : decode b_Mill_divide 84 = .ok (.aaload, 1) := by decide +kernel
theorem d_Mill_divide_85 : decode b_Mill_divide 85 = .ok (.aload_n 0, 1) := by decide +kernel
theorem d_Mill_divide_86 : decode b_Mill_divide 86 = .ok (.getfield 16, 3) := by decide +kernel
theorem d_Mill_divide_89 : decode b_Mill_divide 89 = .ok (.invokevirtual 50, 3) := by decide +kernel
theorem d_Mill_divide_92 : decode b_Mill_divide 92 = .ok (.aload_n 0, 1) := by decide +kernel
theorem d_Mill_divide_93 : decode b_Mill_divide 93 = .ok (.getfield 11, 3) := by decide +kernel
theorem d_Mill_divide_96 : decode b_Mill_divide 96 = .ok (.iload_n 2, 1) := by decide +kernel
theorem d_Mill_divide_97 : decode b_Mill_divide 97 = .ok (.aaload, 1) := by decide +kernel
theorem d_Mill_divide_98 : decode b_Mill_divide 98 = .ok (.aload_n 0, 1) := by decide +kernel
theorem d_Mill_divide_99 : decode b_Mill_divide 99 = .ok (.getfield 20, 3) := by decide +kernel
theorem d_Mill_divide_102 : decode b_Mill_divide 102 = .ok (.invokevirtual 50, 3) := by decide +kernel
theorem d_Mill_divide_105 : decode b_Mill_divide 105 = .ok (.iconst 1, 1) := by decide +kernel
theorem d_Mill_divide_106 : decode b_Mill_divide 106 = .ok (.ireturn, 1) := by decide +kernel
theorem d_Mill_init_0 : decode b_Mill_init 0 = .ok (.aload_n 0, 1) := by decide +kernel
theorem d_Mill_init_1 : decode b_Mill_init 1 = .ok (.invokespecial 1, 3) := by decide +kernel
theorem d_Mill_init_4 : decode b_Mill_init 4 = .ok (.aload_n 0, 1) := by decide +kernel
theorem d_Mill_init_5 : decode b_Mill_init 5 = .ok (.bipush 16, 2) := by decide +kernel
theorem d_Mill_init_7 : decode b_Mill_init 7 = .ok (.anewarray 9, 3) := by decide +kernel
theorem d_Mill_init_10 : decode b_Mill_init 10 = .ok (.putfield 11, 3) := by decide +kernel
theorem d_Mill_init_13 : decode b_Mill_init 13 = .ok (.iconst 0, 1) := by decide +kernel
theorem d_Mill_init_14 : decode b_Mill_init 14 = .ok (.istore_n 1, 1) := by decide +kernel
theorem d_Mill_init_15 : decode b_Mill_init 15 = .ok (.iload_n 1, 1) := by decide +kernel
theorem d_Mill_init_16 : decode b_Mill_init 16 = .ok (.bipush 16, 2) := by decide +kernel
theorem d_Mill_init_18 : decode b_Mill_init 18 = .ok (.if_icmp .ge 22, 3) := by decide +kernel
theorem d_Mill_init_21 : decode b_Mill_init 21 = .ok (.aload_n 0, 1) := by decide +kernel
theorem d_Mill_init_22 : decode b_Mill_init 22 = .ok (.getfield 11, 3) := by decide +kernel
theorem d_Mill_init_25 : decode b_Mill_init 25 = .ok (.iload_n 1, 1) := by decide +kernel
theorem d_Mill_init_26 : decode b_Mill_init 26 = .ok (.new 9, 3) := by decide +kernel
theorem d_Mill_init_29 : decode b_Mill_init 29 = .ok (.dup, 1) := by decide +kernel
theorem d_Mill_init_30 : decode b_Mill_init 30 = .ok (.invokespecial 15, 3) := by decide +kernel
theorem d_Mill_init_33 : decode b_Mill_init 33 = .ok (.aastore, 1) := by decide +kernel
theorem d_Mill_init_34 : decode b_Mill_init 34 = .ok (.iinc 1 1, 3) := by decide +kernel
theorem d_Mill_init_37 : decode b_Mill_init 37 = .ok (.goto (-22), 3) := by decide +kernel
theorem d_Mill_init_40 : decode b_Mill_init 40 = .ok (.aload_n 0, 1) := by decide +kernel
theorem d_Mill_init_41 : decode b_Mill_init 41 = .ok (.new 9, 3) := by decide +kernel
theorem d_Mill_init_44 : decode b_Mill_init 44 = .ok (.dup, 1) := by decide +kernel
theorem d_Mill_init_45 : decode b_Mill_init 45 = .ok (.invokespecial 15, 3) := by decide +kernel
theorem d_Mill_init_48 : decode b_Mill_init 48 = .ok (.putfield 16, 3) := by decide +kernel
theorem d_Mill_init_51 : decode b_Mill_init 51 = .ok (.aload_n 0, 1) := by decide +kernel
theorem d_Mill_init_52 : decode b_Mill_init 52 = .ok (.new 9, 3) := by decide +kernel
theorem d_Mill_init_55 : decode b_Mill_init 55 = .ok (.dup, 1) := by decide +kernel
theorem d_Mill_init_56 : decode b_Mill_init 56 = .ok (.invokespecial 15, 3) := by decide +kernel
theorem d_Mill_init_59 : decode b_Mill_init 59 = .ok (.putfield 20, 3) := by decide +kernel
theorem d_Mill_init_62 : decode b_Mill_init 62 = .ok (.aload_n 0, 1) := by decide +kernel
theorem d_Mill_init_63 : decode b_Mill_init 63 = .ok (.new 9, 3) := by decide +kernel
theorem d_Mill_init_66 : decode b_Mill_init 66 = .ok (.dup, 1) := by decide +kernel
theorem d_Mill_init_67 : decode b_Mill_init 67 = .ok (.invokespecial 15, 3) := by decide +kernel
theorem d_Mill_init_70 : decode b_Mill_init 70 = .ok (.putfield 23, 3) := by decide +kernel
theorem d_Mill_init_73 : decode b_Mill_init 73 = .ok (.return_, 1) := by decide +kernel
theorem d_Mill_isRegister_0 : decode b_Mill_isRegister 0 = .ok (.iload_n 0, 1) := by decide +kernel
theorem d_Mill_isRegister_1 : decode b_Mill_isRegister 1 = .ok (.ifCond .lt 13, 3) := by decide +kernel
theorem d_Mill_isRegister_4 : decode b_Mill_isRegister 4 = .ok (.iload_n 0, 1) := by decide +kernel
theorem d_Mill_isRegister_5 : decode b_Mill_isRegister 5 = .ok (.bipush 16, 2) := by decide +kernel
theorem d_Mill_isRegister_7 : decode b_Mill_isRegister 7 = .ok (.if_icmp .ge 7, 3) := by decide +kernel
theorem d_Mill_isRegister_10 : decode b_Mill_isRegister 10 = .ok (.iconst 1, 1) := by decide +kernel
theorem d_Mill_isRegister_11 : decode b_Mill_isRegister 11 = .ok (.goto 4, 3) := by decide +kernel
theorem d_Mill_isRegister_14 : decode b_Mill_isRegister 14 = .ok (.iconst 0, 1) := by decide +kernel
theorem d_Mill_isRegister_15 : decode b_Mill_isRegister 15 = .ok (.ireturn, 1) := by decide +kernel
theorem d_Mill_keepResult_0 : decode b_Mill_keepResult 0 = .ok (.aload_n 0, 1) := by decide +kernel
theorem d_Mill_keepResult_1 : decode b_Mill_keepResult 1 = .ok (.getfield 16, 3) := by decide +kernel
theorem d_Mill_keepResult_4 : decode b_Mill_keepResult 4 = .ok (.invokevirtual 30, 3) := by decide +kernel
theorem d_Mill_keepResult_7 : decode b_Mill_keepResult 7 = .ok (.ldc 85, 2) := by decide +kernel
theorem d_Mill_keepResult_9 : decode b_Mill_keepResult 9 = .ok (.if_icmp .le 5, 3) := by decide +kernel
theorem d_Mill_keepResult_12 : decode b_Mill_keepResult 12 = .ok (.iconst 0, 1) := by decide +kernel
theorem d_Mill_keepResult_13 : decode b_Mill_keepResult 13 = .ok (.ireturn, 1) := by decide +kernel
theorem d_Mill_keepResult_14 : decode b_Mill_keepResult 14 = .ok (.aload_n 0, 1) := by decide +kernel
theorem d_Mill_keepResult_15 : decode b_Mill_keepResult 15 = .ok (.getfield 11, 3) := by decide +kernel
theorem d_Mill_keepResult_18 : decode b_Mill_keepResult 18 = .ok (.iload_n 1, 1) := by decide +kernel
theorem d_Mill_keepResult_19 : decode b_Mill_keepResult 19 = .ok (.aaload, 1) := by decide +kernel
theorem d_Mill_keepResult_20 : decode b_Mill_keepResult 20 = .ok (.aload_n 0, 1) := by decide +kernel
theorem d_Mill_keepResult_21 : decode b_Mill_keepResult 21 = .ok (.getfield 16, 3) := by decide +kernel
theorem d_Mill_keepResult_24 : decode b_Mill_keepResult 24 = .ok (.invokevirtual 50, 3) := by decide +kernel
theorem d_Mill_keepResult_27 : decode b_Mill_keepResult 27 = .ok (.iconst 1, 1) := by decide +kernel
theorem d_Mill_keepResult_28 : decode b_Mill_keepResult 28 = .ok (.ireturn, 1) := by decide +kernel
theorem d_Mill_lowest_0 : decode b_Mill_lowest 0 = .ok (.iload_n 1, 1) := by decide +kernel
theorem d_Mill_lowest_1 : decode b_Mill_lowest 1 = .ok (.invokestatic 26, 3) := by decide +kernel
theorem d_Mill_lowest_4 : decode b_Mill_lowest 4 = .ok (.ifCond .eq 15, 3) := by decide +kernel
theorem d_Mill_lowest_7 : decode b_Mill_lowest 7 = .ok (.aload_n 0, 1) := by decide +kernel
theorem d_Mill_lowest_8 : decode b_Mill_lowest 8 = .ok (.getfield 11, 3) := by decide +kernel
theorem d_Mill_lowest_11 : decode b_Mill_lowest 11 = .ok (.iload_n 1, 1) := by decide +kernel
theorem d_Mill_lowest_12 : decode b_Mill_lowest 12 = .ok (.aaload, 1) := by decide +kernel
theorem d_Mill_lowest_13 : decode b_Mill_lowest 13 = .ok (.invokevirtual 110, 3) := by decide +kernel
theorem d_Mill_lowest_16 : decode b_Mill_lowest 16 = .ok (.goto 4, 3) := by decide +kernel
theorem d_Mill_lowest_19 : decode b_Mill_lowest 19 = .ok (.iconst (-1), 1) := by decide +kernel
theorem d_Mill_lowest_20 : decode b_Mill_lowest 20 = .ok (.ireturn, 1) := by decide +kernel
theorem d_Mill_ones_0 : decode b_Mill_ones 0 = .ok (.iload_n 1, 1) := by decide +kernel
theorem d_Mill_ones_1 : decode b_Mill_ones 1 = .ok (.invokestatic 26, 3) := by decide +kernel
theorem d_Mill_ones_4 : decode b_Mill_ones 4 = .ok (.ifCond .eq 15, 3) := by decide +kernel
theorem d_Mill_ones_7 : decode b_Mill_ones 7 = .ok (.aload_n 0, 1) := by decide +kernel
theorem d_Mill_ones_8 : decode b_Mill_ones 8 = .ok (.getfield 11, 3) := by decide +kernel
theorem d_Mill_ones_11 : decode b_Mill_ones 11 = .ok (.iload_n 1, 1) := by decide +kernel
theorem d_Mill_ones_12 : decode b_Mill_ones 12 = .ok (.aaload, 1) := by decide +kernel
theorem d_Mill_ones_13 : decode b_Mill_ones 13 = .ok (.invokevirtual 107, 3) := by decide +kernel
theorem d_Mill_ones_16 : decode b_Mill_ones 16 = .ok (.goto 4, 3) := by decide +kernel
theorem d_Mill_ones_19 : decode b_Mill_ones 19 = .ok (.iconst (-1), 1) := by decide +kernel
theorem d_Mill_ones_20 : decode b_Mill_ones 20 = .ok (.ireturn, 1) := by decide +kernel
theorem d_Mill_part_0 : decode b_Mill_part 0 = .ok (.iload_n 1, 1) := by decide +kernel
theorem d_Mill_part_1 : decode b_Mill_part 1 = .ok (.invokestatic 26, 3) := by decide +kernel
theorem d_Mill_part_4 : decode b_Mill_part 4 = .ok (.ifCond .eq 19, 3) := by decide +kernel
theorem d_Mill_part_7 : decode b_Mill_part 7 = .ok (.iload_n 2, 1) := by decide +kernel
theorem d_Mill_part_8 : decode b_Mill_part 8 = .ok (.invokestatic 26, 3) := by decide +kernel
theorem d_Mill_part_11 : decode b_Mill_part 11 = .ok (.ifCond .eq 12, 3) := by decide +kernel
theorem d_Mill_part_14 : decode b_Mill_part 14 = .ok (.iload_n 3, 1) := by decide +kernel
theorem d_Mill_part_15 : decode b_Mill_part 15 = .ok (.ifCond .lt 8, 3) := by decide +kernel
theorem d_Mill_part_18 : decode b_Mill_part 18 = .ok (.iload 4, 2) := by decide +kernel
theorem d_Mill_part_20 : decode b_Mill_part 20 = .ok (.ifCond .ge 5, 3) := by decide +kernel
theorem d_Mill_part_23 : decode b_Mill_part 23 = .ok (.iconst 0, 1) := by decide +kernel
theorem d_Mill_part_24 : decode b_Mill_part 24 = .ok (.ireturn, 1) := by decide +kernel
theorem d_Mill_part_25 : decode b_Mill_part 25 = .ok (.aload_n 0, 1) := by decide +kernel
theorem d_Mill_part_26 : decode b_Mill_part 26 = .ok (.getfield 16, 3) := by decide +kernel
theorem d_Mill_part_29 : decode b_Mill_part 29 = .ok (.aload_n 0, 1) := by decide +kernel
theorem d_Mill_part_30 : decode b_Mill_part 30 = .ok (.getfield 11, 3) := by decide +kernel
theorem d_Mill_part_33 : decode b_Mill_part 33 = .ok (.iload_n 2, 1) := by decide +kernel
theorem d_Mill_part_34 : decode b_Mill_part 34 = .ok (.aaload, 1) := by decide +kernel
theorem d_Mill_part_35 : decode b_Mill_part 35 = .ok (.iload_n 3, 1) := by decide +kernel
theorem d_Mill_part_36 : decode b_Mill_part 36 = .ok (.ldc 85, 2) := by decide +kernel
theorem d_Mill_part_38 : decode b_Mill_part 38 = .ok (.invokestatic 95, 3) := by decide +kernel
theorem d_Mill_part_41 : decode b_Mill_part 41 = .ok (.invokevirtual 92, 3) := by decide +kernel
theorem d_Mill_part_44 : decode b_Mill_part 44 = .ok (.aload_n 0, 1) := by decide +kernel
theorem d_Mill_part_45 : decode b_Mill_part 45 = .ok (.getfield 16, 3) := by decide +kernel
theorem d_Mill_part_48 : decode b_Mill_part 48 = .ok (.iload 4, 2) := by decide +kernel
theorem d_Mill_part_50 : decode b_Mill_part 50 = .ok (.invokevirtual 99, 3) := by decide +kernel
theorem d_Mill_part_53 : decode b_Mill_part 53 = .ok (.aload_n 0, 1) := by decide +kernel
theorem d_Mill_part_54 : decode b_Mill_part 54 = .ok (.iload_n 1, 1) := by decide +kernel
theorem d_Mill_part_55 : decode b_Mill_part 55 = .ok (.invokevirtual 43, 3) := by decide +kernel
theorem d_Mill_part_58 : decode b_Mill_part 58 = .ok (.ireturn, 1) := by decide +kernel
theorem d_Mill_push_0 : decode b_Mill_push 0 = .ok (.iload_n 1, 1) := by decide +kernel
theorem d_Mill_push_1 : decode b_Mill_push 1 = .ok (.invokestatic 26, 3) := by decide +kernel
theorem d_Mill_push_4 : decode b_Mill_push 4 = .ok (.ifCond .eq 17, 3) := by decide +kernel
theorem d_Mill_push_7 : decode b_Mill_push 7 = .ok (.aload_n 0, 1) := by decide +kernel
theorem d_Mill_push_8 : decode b_Mill_push 8 = .ok (.getfield 11, 3) := by decide +kernel
theorem d_Mill_push_11 : decode b_Mill_push 11 = .ok (.iload_n 1, 1) := by decide +kernel
theorem d_Mill_push_12 : decode b_Mill_push 12 = .ok (.aaload, 1) := by decide +kernel
theorem d_Mill_push_13 : decode b_Mill_push 13 = .ok (.invokevirtual 30, 3) := by decide +kernel
theorem d_Mill_push_16 : decode b_Mill_push 16 = .ok (.ldc 34, 2) := by decide +kernel
theorem d_Mill_push_18 : decode b_Mill_push 18 = .ok (.if_icmp .le 5, 3) := by decide +kernel
theorem d_Mill_push_21 : decode b_Mill_push 21 = .ok (.iconst 0, 1) := by decide +kernel
theorem d_Mill_push_22 : decode b_Mill_push 22 = .ok (.ireturn, 1) := by decide +kernel
theorem d_Mill_push_23 : decode b_Mill_push 23 = .ok (.aload_n 0, 1) := by decide +kernel
theorem d_Mill_push_24 : decode b_Mill_push 24 = .ok (.getfield 16, 3) := by decide +kernel
theorem d_Mill_push_27 : decode b_Mill_push 27 = .ok (.aload_n 0, 1) := by decide +kernel
theorem d_Mill_push_28 : decode b_Mill_push 28 = .ok (.getfield 11, 3) := by decide +kernel
theorem d_Mill_push_31 : decode b_Mill_push 31 = .ok (.iload_n 1, 1) := by decide +kernel
theorem d_Mill_push_32 : decode b_Mill_push 32 = .ok (.aaload, 1) := by decide +kernel
theorem d_Mill_push_33 : decode b_Mill_push 33 = .ok (.bipush 64, 2) := by decide +kernel
theorem d_Mill_push_35 : decode b_Mill_push 35 = .ok (.invokevirtual 35, 3) := by decide +kernel
theorem d_Mill_push_38 : decode b_Mill_push 38 = .ok (.aload_n 0, 1) := by decide +kernel
theorem d_Mill_push_39 : decode b_Mill_push 39 = .ok (.getfield 16, 3) := by decide +kernel
theorem d_Mill_push_42 : decode b_Mill_push 42 = .ok (.lload_n 2, 1) := by decide +kernel
theorem d_Mill_push_43 : decode b_Mill_push 43 = .ok (.invokevirtual 39, 3) := by decide +kernel
theorem d_Mill_push_46 : decode b_Mill_push 46 = .ok (.aload_n 0, 1) := by decide +kernel
theorem d_Mill_push_47 : decode b_Mill_push 47 = .ok (.iload_n 1, 1) := by decide +kernel
theorem d_Mill_push_48 : decode b_Mill_push 48 = .ok (.invokevirtual 43, 3) := by decide +kernel
theorem d_Mill_push_51 : decode b_Mill_push 51 = .ok (.ireturn, 1) := by decide +kernel
theorem d_Mill_rest_0 : decode b_Mill_rest 0 = .ok (.iload_n 1, 1) := by decide +kernel
theorem d_Mill_rest_1 : decode b_Mill_rest 1 = .ok (.invokestatic 26, 3) := by decide +kernel
theorem d_Mill_rest_4 : decode b_Mill_rest 4 = .ok (.ifCond .eq 21, 3) := by decide +kernel
theorem d_Mill_rest_7 : decode b_Mill_rest 7 = .ok (.iload_n 2, 1) := by decide +kernel
theorem d_Mill_rest_8 : decode b_Mill_rest 8 = .ok (.iconst 1, 1) := by decide +kernel
theorem d_Mill_rest_9 : decode b_Mill_rest 9 = .ok (.if_icmp .lt 16, 3) := by decide +kernel
theorem d_Mill_rest_12 : decode b_Mill_rest 12 = .ok (.aload_n 0, 1) := by decide +kernel
theorem d_Mill_rest_13 : decode b_Mill_rest 13 = .ok (.getfield 11, 3) := by decide +kernel
theorem d_Mill_rest_16 : decode b_Mill_rest 16 = .ok (.iload_n 1, 1) := by decide +kernel
theorem d_Mill_rest_17 : decode b_Mill_rest 17 = .ok (.aaload, 1) := by decide +kernel
theorem d_Mill_rest_18 : decode b_Mill_rest 18 = .ok (.iload_n 2, 1) := by decide +kernel
theorem d_Mill_rest_19 : decode b_Mill_rest 19 = .ok (.invokevirtual 113, 3) := by decide +kernel
theorem d_Mill_rest_22 : decode b_Mill_rest 22 = .ok (.goto 4, 3) := by decide +kernel
theorem d_Mill_rest_25 : decode b_Mill_rest 25 = .ok (.iconst (-1), 1) := by decide +kernel
theorem d_Mill_rest_26 : decode b_Mill_rest 26 = .ok (.ireturn, 1) := by decide +kernel
theorem d_Mill_root_0 : decode b_Mill_root 0 = .ok (.iload_n 1, 1) := by decide +kernel
theorem d_Mill_root_1 : decode b_Mill_root 1 = .ok (.invokestatic 26, 3) := by decide +kernel
theorem d_Mill_root_4 : decode b_Mill_root 4 = .ok (.ifCond .eq 22, 3) := by decide +kernel
theorem d_Mill_root_7 : decode b_Mill_root 7 = .ok (.iload_n 2, 1) := by decide +kernel
theorem d_Mill_root_8 : decode b_Mill_root 8 = .ok (.invokestatic 26, 3) := by decide +kernel
theorem d_Mill_root_11 : decode b_Mill_root 11 = .ok (.ifCond .eq 15, 3) := by decide +kernel
theorem d_Mill_root_14 : decode b_Mill_root 14 = .ok (.iload_n 3, 1) := by decide +kernel
theorem d_Mill_root_15 : decode b_Mill_root 15 = .ok (.invokestatic 26, 3) := by decide +kernel
theorem d_Mill_root_18 : decode b_Mill_root 18 = .ok (.ifCond .eq 8, 3) := by decide +kernel
theorem d_Mill_root_21 : decode b_Mill_root 21 = .ok (.iload_n 1, 1) := by decide +kernel
theorem d_Mill_root_22 : decode b_Mill_root 22 = .ok (.iload_n 2, 1) := by decide +kernel
theorem d_Mill_root_23 : decode b_Mill_root 23 = .ok (.if_icmp .ne 5, 3) := by decide +kernel
theorem d_Mill_root_26 : decode b_Mill_root 26 = .ok (.iconst 0, 1) := by decide +kernel
theorem d_Mill_root_27 : decode b_Mill_root 27 = .ok (.ireturn, 1) := by decide +kernel
theorem d_Mill_root_28 : decode b_Mill_root 28 = .ok (.aload_n 0, 1) := by decide +kernel
theorem d_Mill_root_29 : decode b_Mill_root 29 = .ok (.getfield 11, 3) := by decide +kernel
theorem d_Mill_root_32 : decode b_Mill_root 32 = .ok (.iload_n 3, 1) := by decide +kernel
theorem d_Mill_root_33 : decode b_Mill_root 33 = .ok (.aaload, 1) := by decide +kernel
theorem d_Mill_root_34 : decode b_Mill_root 34 = .ok (.aload_n 0, 1) := by decide +kernel
theorem d_Mill_root_35 : decode b_Mill_root 35 = .ok (.getfield 16, 3) := by decide +kernel
theorem d_Mill_root_38 : decode b_Mill_root 38 = .ok (.aload_n 0, 1) := by decide +kernel
theorem d_Mill_root_39 : decode b_Mill_root 39 = .ok (.getfield 20, 3) := by decide +kernel
theorem d_Mill_root_42 : decode b_Mill_root 42 = .ok (.aload_n 0, 1) := by decide +kernel
theorem d_Mill_root_43 : decode b_Mill_root 43 = .ok (.getfield 23, 3) := by decide +kernel
theorem d_Mill_root_46 : decode b_Mill_root 46 = .ok (.invokestatic 79, 3) := by decide +kernel
theorem d_Mill_root_49 : decode b_Mill_root 49 = .ok (.aload_n 0, 1) := by decide +kernel
theorem d_Mill_root_50 : decode b_Mill_root 50 = .ok (.getfield 11, 3) := by decide +kernel
theorem d_Mill_root_53 : decode b_Mill_root 53 = .ok (.iload_n 1, 1) := by decide +kernel
theorem d_Mill_root_54 : decode b_Mill_root 54 = .ok (.aaload, 1) := by decide +kernel
theorem d_Mill_root_55 : decode b_Mill_root 55 = .ok (.aload_n 0, 1) := by decide +kernel
theorem d_Mill_root_56 : decode b_Mill_root 56 = .ok (.getfield 16, 3) := by decide +kernel
theorem d_Mill_root_59 : decode b_Mill_root 59 = .ok (.invokevirtual 50, 3) := by decide +kernel
theorem d_Mill_root_62 : decode b_Mill_root 62 = .ok (.aload_n 0, 1) := by decide +kernel
theorem d_Mill_root_63 : decode b_Mill_root 63 = .ok (.getfield 11, 3) := by decide +kernel
theorem d_Mill_root_66 : decode b_Mill_root 66 = .ok (.iload_n 2, 1) := by decide +kernel
theorem d_Mill_root_67 : decode b_Mill_root 67 = .ok (.aaload, 1) := by decide +kernel
theorem d_Mill_root_68 : decode b_Mill_root 68 = .ok (.aload_n 0, 1) := by decide +kernel
theorem d_Mill_root_69 : decode b_Mill_root 69 = .ok (.getfield 20, 3) := by decide +kernel
theorem d_Mill_root_72 : decode b_Mill_root 72 = .ok (.invokevirtual 50, 3) := by decide +kernel
theorem d_Mill_root_75 : decode b_Mill_root 75 = .ok (.iconst 1, 1) := by decide +kernel
theorem d_Mill_root_76 : decode b_Mill_root 76 = .ok (.ireturn, 1) := by decide +kernel
theorem d_Mill_shift_0 : decode b_Mill_shift 0 = .ok (.iload_n 1, 1) := by decide +kernel
theorem d_Mill_shift_1 : decode b_Mill_shift 1 = .ok (.invokestatic 26, 3) := by decide +kernel
theorem d_Mill_shift_4 : decode b_Mill_shift 4 = .ok (.ifCond .eq 10, 3) := by decide +kernel
theorem d_Mill_shift_7 : decode b_Mill_shift 7 = .ok (.iload_n 2, 1) := by decide +kernel
theorem d_Mill_shift_8 : decode b_Mill_shift 8 = .ok (.invokestatic 26, 3) := by decide +kernel
theorem d_Mill_shift_11 : decode b_Mill_shift 11 = .ok (.ifCond .ne 5, 3) := by decide +kernel
theorem d_Mill_shift_14 : decode b_Mill_shift 14 = .ok (.iconst 0, 1) := by decide +kernel
theorem d_Mill_shift_15 : decode b_Mill_shift 15 = .ok (.ireturn, 1) := by decide +kernel
theorem d_Mill_shift_16 : decode b_Mill_shift 16 = .ok (.iload_n 3, 1) := by decide +kernel
theorem d_Mill_shift_17 : decode b_Mill_shift 17 = .ok (.ifCond .le 15, 3) := by decide +kernel
theorem d_Mill_shift_20 : decode b_Mill_shift 20 = .ok (.aload_n 0, 1) := by decide +kernel
theorem d_Mill_shift_21 : decode b_Mill_shift 21 = .ok (.getfield 11, 3) := by decide +kernel
theorem d_Mill_shift_24 : decode b_Mill_shift 24 = .ok (.iload_n 2, 1) := by decide +kernel
theorem d_Mill_shift_25 : decode b_Mill_shift 25 = .ok (.aaload, 1) := by decide +kernel
theorem d_Mill_shift_26 : decode b_Mill_shift 26 = .ok (.getfield 69, 3) := by decide +kernel
theorem d_Mill_shift_29 : decode b_Mill_shift 29 = .ok (.ifCond .ne 37, 3) := by decide +kernel
theorem d_Mill_shift_32 : decode b_Mill_shift 32 = .ok (.aload_n 0, 1) := by decide +kernel
theorem d_Mill_shift_33 : decode b_Mill_shift 33 = .ok (.getfield 16, 3) := by decide +kernel
theorem d_Mill_shift_36 : decode b_Mill_shift 36 = .ok (.aload_n 0, 1) := by decide +kernel
theorem d_Mill_shift_37 : decode b_Mill_shift 37 = .ok (.getfield 11, 3) := by decide +kernel
theorem d_Mill_shift_40 : decode b_Mill_shift 40 = .ok (.iload_n 2, 1) := by decide +kernel
theorem d_Mill_shift_41 : decode b_Mill_shift 41 = .ok (.aaload, 1) := by decide +kernel
theorem d_Mill_shift_42 : decode b_Mill_shift 42 = .ok (.iload_n 3, 1) := by decide +kernel
theorem d_Mill_shift_43 : decode b_Mill_shift 43 = .ok (.ldc 84, 2) := by decide +kernel
theorem d_Mill_shift_45 : decode b_Mill_shift 45 = .ok (.if_icmp .gt 8, 3) := by decide +kernel
theorem d_Mill_shift_48 : decode b_Mill_shift 48 = .ok (.ldc 85, 2) := by decide +kernel
theorem d_Mill_shift_50 : decode b_Mill_shift 50 = .ok (.goto 7, 3) := by decide +kernel
theorem d_Mill_shift_53 : decode b_Mill_shift 53 = .ok (.iload_n 3, 1) := by decide +kernel
theorem d_Mill_shift_54 : decode b_Mill_shift 54 = .ok (.invokestatic 86, 3) := by decide +kernel
theorem d_Mill_shift_57 : decode b_Mill_shift 57 = .ok (.invokevirtual 92, 3) := by decide +kernel
theorem d_Mill_shift_60 : decode b_Mill_shift 60 = .ok (.aload_n 0, 1) := by decide +kernel
theorem d_Mill_shift_61 : decode b_Mill_shift 61 = .ok (.iload_n 1, 1) := by decide +kernel
theorem d_Mill_shift_62 : decode b_Mill_shift 62 = .ok (.invokevirtual 43, 3) := by decide +kernel
theorem d_Mill_shift_65 : decode b_Mill_shift 65 = .ok (.ireturn, 1) := by decide +kernel
theorem d_Mill_shift_66 : decode b_Mill_shift 66 = .ok (.iload_n 3, 1) := by decide +kernel
theorem d_Mill_shift_67 : decode b_Mill_shift 67 = .ok (.ldc 85, 2) := by decide +kernel
theorem d_Mill_shift_69 : decode b_Mill_shift 69 = .ok (.aload_n 0, 1) := by decide +kernel
theorem d_Mill_shift_70 : decode b_Mill_shift 70 = .ok (.getfield 11, 3) := by decide +kernel
theorem d_Mill_shift_73 : decode b_Mill_shift 73 = .ok (.iload_n 2, 1) := by decide +kernel
theorem d_Mill_shift_74 : decode b_Mill_shift 74 = .ok (.aaload, 1) := by decide +kernel
theorem d_Mill_shift_75 : decode b_Mill_shift 75 = .ok (.invokevirtual 30, 3) := by decide +kernel
theorem d_Mill_shift_78 : decode b_Mill_shift 78 = .ok (.isub, 1) := by decide +kernel
theorem d_Mill_shift_79 : decode b_Mill_shift 79 = .ok (.if_icmp .le 5, 3) := by decide +kernel
theorem d_Mill_shift_82 : decode b_Mill_shift 82 = .ok (.iconst 0, 1) := by decide +kernel
theorem d_Mill_shift_83 : decode b_Mill_shift 83 = .ok (.ireturn, 1) := by decide +kernel
theorem d_Mill_shift_84 : decode b_Mill_shift 84 = .ok (.aload_n 0, 1) := by decide +kernel
theorem d_Mill_shift_85 : decode b_Mill_shift 85 = .ok (.getfield 16, 3) := by decide +kernel
theorem d_Mill_shift_88 : decode b_Mill_shift 88 = .ok (.aload_n 0, 1) := by decide +kernel
theorem d_Mill_shift_89 : decode b_Mill_shift 89 = .ok (.getfield 11, 3) := by decide +kernel
theorem d_Mill_shift_92 : decode b_Mill_shift 92 = .ok (.iload_n 2, 1) := by decide +kernel
theorem d_Mill_shift_93 : decode b_Mill_shift 93 = .ok (.aaload, 1) := by decide +kernel
theorem d_Mill_shift_94 : decode b_Mill_shift 94 = .ok (.iload_n 3, 1) := by decide +kernel
theorem d_Mill_shift_95 : decode b_Mill_shift 95 = .ok (.invokevirtual 35, 3) := by decide +kernel
theorem d_Mill_shift_98 : decode b_Mill_shift 98 = .ok (.aload_n 0, 1) := by decide +kernel
theorem d_Mill_shift_99 : decode b_Mill_shift 99 = .ok (.iload_n 1, 1) := by decide +kernel
theorem d_Mill_shift_100 : decode b_Mill_shift 100 = .ok (.invokevirtual 43, 3) := by decide +kernel
theorem d_Mill_shift_103 : decode b_Mill_shift 103 = .ok (.ireturn, 1) := by decide +kernel
theorem d_Mill_spread_0 : decode b_Mill_spread 0 = .ok (.iload_n 1, 1) := by decide +kernel
theorem d_Mill_spread_1 : decode b_Mill_spread 1 = .ok (.invokestatic 26, 3) := by decide +kernel
theorem d_Mill_spread_4 : decode b_Mill_spread 4 = .ok (.ifCond .eq 16, 3) := by decide +kernel
theorem d_Mill_spread_7 : decode b_Mill_spread 7 = .ok (.iload 4, 2) := by decide +kernel
theorem d_Mill_spread_9 : decode b_Mill_spread 9 = .ok (.ifCond .lt 11, 3) := by decide +kernel
theorem d_Mill_spread_12 : decode b_Mill_spread 12 = .ok (.iload 4, 2) := by decide +kernel
theorem d_Mill_spread_14 : decode b_Mill_spread 14 = .ok (.sipush 1024, 3) := by decide +kernel
theorem d_Mill_spread_17 : decode b_Mill_spread 17 = .ok (.if_icmp .le 5, 3) := by decide +kernel
theorem d_Mill_spread_20 : decode b_Mill_spread 20 = .ok (.iconst 0, 1) := by decide +kernel
theorem d_Mill_spread_21 : decode b_Mill_spread 21 = .ok (.ireturn, 1) := by decide +kernel
theorem d_Mill_spread_22 : decode b_Mill_spread 22 = .ok (.aload_n 0, 1) := by decide +kernel
theorem d_Mill_spread_23 : decode b_Mill_spread 23 = .ok (.getfield 16, 3) := by decide +kernel
theorem d_Mill_spread_26 : decode b_Mill_spread 26 = .ok (.lload_n 2, 1) := by decide +kernel
theorem d_Mill_spread_27 : decode b_Mill_spread 27 = .ok (.iload 4, 2) := by decide +kernel
theorem d_Mill_spread_29 : decode b_Mill_spread 29 = .ok (.invokevirtual 46, 3) := by decide +kernel
theorem d_Mill_spread_32 : decode b_Mill_spread 32 = .ok (.aload_n 0, 1) := by decide +kernel
theorem d_Mill_spread_33 : decode b_Mill_spread 33 = .ok (.iload_n 1, 1) := by decide +kernel
theorem d_Mill_spread_34 : decode b_Mill_spread 34 = .ok (.invokevirtual 43, 3) := by decide +kernel
theorem d_Mill_spread_37 : decode b_Mill_spread 37 = .ok (.ireturn, 1) := by decide +kernel
theorem d_Mill_take_0 : decode b_Mill_take 0 = .ok (.iload_n 1, 1) := by decide +kernel
theorem d_Mill_take_1 : decode b_Mill_take 1 = .ok (.invokestatic 26, 3) := by decide +kernel
theorem d_Mill_take_4 : decode b_Mill_take 4 = .ok (.ifCond .eq 17, 3) := by decide +kernel
theorem d_Mill_take_7 : decode b_Mill_take 7 = .ok (.iload_n 2, 1) := by decide +kernel
theorem d_Mill_take_8 : decode b_Mill_take 8 = .ok (.invokestatic 26, 3) := by decide +kernel
theorem d_Mill_take_11 : decode b_Mill_take 11 = .ok (.ifCond .eq 10, 3) := by decide +kernel
theorem d_Mill_take_14 : decode b_Mill_take 14 = .ok (.iload_n 3, 1) := by decide +kernel
theorem d_Mill_take_15 : decode b_Mill_take 15 = .ok (.invokestatic 26, 3) := by decide +kernel
theorem d_Mill_take_18 : decode b_Mill_take 18 = .ok (.ifCond .ne 5, 3) := by decide +kernel
theorem d_Mill_take_21 : decode b_Mill_take 21 = .ok (.iconst 0, 1) := by decide +kernel
theorem d_Mill_take_22 : decode b_Mill_take 22 = .ok (.ireturn, 1) := by decide +kernel
theorem d_Mill_take_23 : decode b_Mill_take 23 = .ok (.aload_n 0, 1) := by decide +kernel
theorem d_Mill_take_24 : decode b_Mill_take 24 = .ok (.getfield 11, 3) := by decide +kernel
theorem d_Mill_take_27 : decode b_Mill_take 27 = .ok (.iload_n 2, 1) := by decide +kernel
theorem d_Mill_take_28 : decode b_Mill_take 28 = .ok (.aaload, 1) := by decide +kernel
theorem d_Mill_take_29 : decode b_Mill_take 29 = .ok (.aload_n 0, 1) := by decide +kernel
theorem d_Mill_take_30 : decode b_Mill_take 30 = .ok (.getfield 11, 3) := by decide +kernel
theorem d_Mill_take_33 : decode b_Mill_take 33 = .ok (.iload_n 3, 1) := by decide +kernel
theorem d_Mill_take_34 : decode b_Mill_take 34 = .ok (.aaload, 1) := by decide +kernel
theorem d_Mill_take_35 : decode b_Mill_take 35 = .ok (.invokevirtual 58, 3) := by decide +kernel
theorem d_Mill_take_38 : decode b_Mill_take 38 = .ok (.ifCond .ge 5, 3) := by decide +kernel
theorem d_Mill_take_41 : decode b_Mill_take 41 = .ok (.iconst 0, 1) := by decide +kernel
theorem d_Mill_take_42 : decode b_Mill_take 42 = .ok (.ireturn, 1) := by decide +kernel
theorem d_Mill_take_43 : decode b_Mill_take 43 = .ok (.aload_n 0, 1) := by decide +kernel
theorem d_Mill_take_44 : decode b_Mill_take 44 = .ok (.getfield 16, 3) := by decide +kernel
theorem d_Mill_take_47 : decode b_Mill_take 47 = .ok (.aload_n 0, 1) := by decide +kernel
theorem d_Mill_take_48 : decode b_Mill_take 48 = .ok (.getfield 11, 3) := by decide +kernel
theorem d_Mill_take_51 : decode b_Mill_take 51 = .ok (.iload_n 2, 1) := by decide +kernel
theorem d_Mill_take_52 : decode b_Mill_take 52 = .ok (.aaload, 1) := by decide +kernel
theorem d_Mill_take_53 : decode b_Mill_take 53 = .ok (.aload_n 0, 1) := by decide +kernel
theorem d_Mill_take_54 : decode b_Mill_take 54 = .ok (.getfield 11, 3) := by decide +kernel
theorem d_Mill_take_57 : decode b_Mill_take 57 = .ok (.iload_n 3, 1) := by decide +kernel
theorem d_Mill_take_58 : decode b_Mill_take 58 = .ok (.aaload, 1) := by decide +kernel
theorem d_Mill_take_59 : decode b_Mill_take 59 = .ok (.invokevirtual 62, 3) := by decide +kernel
theorem d_Mill_take_62 : decode b_Mill_take 62 = .ok (.aload_n 0, 1) := by decide +kernel
theorem d_Mill_take_63 : decode b_Mill_take 63 = .ok (.iload_n 1, 1) := by decide +kernel
theorem d_Mill_take_64 : decode b_Mill_take 64 = .ok (.invokevirtual 43, 3) := by decide +kernel
theorem d_Mill_take_67 : decode b_Mill_take 67 = .ok (.ireturn, 1) := by decide +kernel
theorem d_Mill_times_0 : decode b_Mill_times 0 = .ok (.iload_n 1, 1) := by decide +kernel
theorem d_Mill_times_1 : decode b_Mill_times 1 = .ok (.invokestatic 26, 3) := by decide +kernel
theorem d_Mill_times_4 : decode b_Mill_times 4 = .ok (.ifCond .eq 17, 3) := by decide +kernel
theorem d_Mill_times_7 : decode b_Mill_times 7 = .ok (.iload_n 2, 1) := by decide +kernel
theorem d_Mill_times_8 : decode b_Mill_times 8 = .ok (.invokestatic 26, 3) := by decide +kernel
theorem d_Mill_times_11 : decode b_Mill_times 11 = .ok (.ifCond .eq 10, 3) := by decide +kernel
theorem d_Mill_times_14 : decode b_Mill_times 14 = .ok (.iload_n 3, 1) := by decide +kernel
theorem d_Mill_times_15 : decode b_Mill_times 15 = .ok (.invokestatic 26, 3) := by decide +kernel
theorem d_Mill_times_18 : decode b_Mill_times 18 = .ok (.ifCond .ne 5, 3) := by decide +kernel
theorem d_Mill_times_21 : decode b_Mill_times 21 = .ok (.iconst 0, 1) := by decide +kernel
theorem d_Mill_times_22 : decode b_Mill_times 22 = .ok (.ireturn, 1) := by decide +kernel
theorem d_Mill_times_23 : decode b_Mill_times 23 = .ok (.aload_n 0, 1) := by decide +kernel
theorem d_Mill_times_24 : decode b_Mill_times 24 = .ok (.getfield 11, 3) := by decide +kernel
theorem d_Mill_times_27 : decode b_Mill_times 27 = .ok (.iload_n 2, 1) := by decide +kernel
theorem d_Mill_times_28 : decode b_Mill_times 28 = .ok (.aaload, 1) := by decide +kernel
theorem d_Mill_times_29 : decode b_Mill_times 29 = .ok (.invokevirtual 30, 3) := by decide +kernel
theorem d_Mill_times_32 : decode b_Mill_times 32 = .ok (.aload_n 0, 1) := by decide +kernel
theorem d_Mill_times_33 : decode b_Mill_times 33 = .ok (.getfield 11, 3) := by decide +kernel
theorem d_Mill_times_36 : decode b_Mill_times 36 = .ok (.iload_n 3, 1) := by decide +kernel
theorem d_Mill_times_37 : decode b_Mill_times 37 = .ok (.aaload, 1) := by decide +kernel
theorem d_Mill_times_38 : decode b_Mill_times 38 = .ok (.invokevirtual 30, 3) := by decide +kernel
theorem d_Mill_times_41 : decode b_Mill_times 41 = .ok (.iadd, 1) := by decide +kernel
theorem d_Mill_times_42 : decode b_Mill_times 42 = .ok (.ldc 65, 2) := by decide +kernel
theorem d_Mill_times_44 : decode b_Mill_times 44 = .ok (.if_icmp .le 5, 3) := by decide +kernel
theorem d_Mill_times_47 : decode b_Mill_times 47 = .ok (.iconst 0, 1) := by decide +kernel
theorem d_Mill_times_48 : decode b_Mill_times 48 = .ok (.ireturn, 1) := by decide +kernel
theorem d_Mill_times_49 : decode b_Mill_times 49 = .ok (.aload_n 0, 1) := by decide +kernel
theorem d_Mill_times_50 : decode b_Mill_times 50 = .ok (.getfield 16, 3) := by decide +kernel
theorem d_Mill_times_53 : decode b_Mill_times 53 = .ok (.aload_n 0, 1) := by decide +kernel
theorem d_Mill_times_54 : decode b_Mill_times 54 = .ok (.getfield 11, 3) := by decide +kernel
theorem d_Mill_times_57 : decode b_Mill_times 57 = .ok (.iload_n 2, 1) := by decide +kernel
theorem d_Mill_times_58 : decode b_Mill_times 58 = .ok (.aaload, 1) := by decide +kernel
theorem d_Mill_times_59 : decode b_Mill_times 59 = .ok (.aload_n 0, 1) := by decide +kernel
theorem d_Mill_times_60 : decode b_Mill_times 60 = .ok (.getfield 11, 3) := by decide +kernel
theorem d_Mill_times_63 : decode b_Mill_times 63 = .ok (.iload_n 3, 1) := by decide +kernel
theorem d_Mill_times_64 : decode b_Mill_times 64 = .ok (.aaload, 1) := by decide +kernel
theorem d_Mill_times_65 : decode b_Mill_times 65 = .ok (.invokevirtual 66, 3) := by decide +kernel
theorem d_Mill_times_68 : decode b_Mill_times 68 = .ok (.aload_n 0, 1) := by decide +kernel
theorem d_Mill_times_69 : decode b_Mill_times 69 = .ok (.iload_n 1, 1) := by decide +kernel
theorem d_Mill_times_70 : decode b_Mill_times 70 = .ok (.invokevirtual 43, 3) := by decide +kernel
theorem d_Mill_times_73 : decode b_Mill_times 73 = .ok (.ireturn, 1) := by decide +kernel
theorem d_Mill_word_0 : decode b_Mill_word 0 = .ok (.iload_n 1, 1) := by decide +kernel
theorem d_Mill_word_1 : decode b_Mill_word 1 = .ok (.invokestatic 26, 3) := by decide +kernel
theorem d_Mill_word_4 : decode b_Mill_word 4 = .ok (.ifCond .eq 20, 3) := by decide +kernel
theorem d_Mill_word_7 : decode b_Mill_word 7 = .ok (.iload_n 2, 1) := by decide +kernel
theorem d_Mill_word_8 : decode b_Mill_word 8 = .ok (.ifCond .lt 16, 3) := by decide +kernel
theorem d_Mill_word_11 : decode b_Mill_word 11 = .ok (.iload_n 2, 1) := by decide +kernel
theorem d_Mill_word_12 : decode b_Mill_word 12 = .ok (.aload_n 0, 1) := by decide +kernel
theorem d_Mill_word_13 : decode b_Mill_word 13 = .ok (.getfield 11, 3) := by decide +kernel
theorem d_Mill_word_16 : decode b_Mill_word 16 = .ok (.iload_n 1, 1) := by decide +kernel
theorem d_Mill_word_17 : decode b_Mill_word 17 = .ok (.aaload, 1) := by decide +kernel
theorem d_Mill_word_18 : decode b_Mill_word 18 = .ok (.getfield 69, 3) := by decide +kernel
theorem d_Mill_word_21 : decode b_Mill_word 21 = .ok (.if_icmp .lt 5, 3) := by decide +kernel
theorem d_Mill_word_24 : decode b_Mill_word 24 = .ok (.iconst 0, 1) := by decide +kernel
theorem d_Mill_word_25 : decode b_Mill_word 25 = .ok (.ireturn, 1) := by decide +kernel
theorem d_Mill_word_26 : decode b_Mill_word 26 = .ok (.aload_n 0, 1) := by decide +kernel
theorem d_Mill_word_27 : decode b_Mill_word 27 = .ok (.getfield 11, 3) := by decide +kernel
theorem d_Mill_word_30 : decode b_Mill_word 30 = .ok (.iload_n 1, 1) := by decide +kernel
theorem d_Mill_word_31 : decode b_Mill_word 31 = .ok (.aaload, 1) := by decide +kernel
theorem d_Mill_word_32 : decode b_Mill_word 32 = .ok (.getfield 103, 3) := by decide +kernel
theorem d_Mill_word_35 : decode b_Mill_word 35 = .ok (.iload_n 2, 1) := by decide +kernel
theorem d_Mill_word_36 : decode b_Mill_word 36 = .ok (.iaload, 1) := by decide +kernel
theorem d_Mill_word_37 : decode b_Mill_word 37 = .ok (.ireturn, 1) := by decide +kernel
