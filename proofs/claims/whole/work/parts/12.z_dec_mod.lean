theorem d_Mod_add_0 : decode b_Mod_add 0 = .ok (.iload_n 1, 1) := by decide +kernel
theorem d_Mod_add_1 : decode b_Mod_add 1 = .ok (.invokestatic 41, 3) := by decide +kernel
theorem d_Mod_add_4 : decode b_Mod_add 4 = .ok (.ifCond .eq 17, 3) := by decide +kernel
theorem d_Mod_add_7 : decode b_Mod_add 7 = .ok (.iload_n 2, 1) := by decide +kernel
theorem d_Mod_add_8 : decode b_Mod_add 8 = .ok (.invokestatic 41, 3) := by decide +kernel
theorem d_Mod_add_11 : decode b_Mod_add 11 = .ok (.ifCond .eq 10, 3) := by decide +kernel
theorem d_Mod_add_14 : decode b_Mod_add 14 = .ok (.iload_n 3, 1) := by decide +kernel
theorem d_Mod_add_15 : decode b_Mod_add 15 = .ok (.invokestatic 41, 3) := by decide +kernel
theorem d_Mod_add_18 : decode b_Mod_add 18 = .ok (.ifCond .ne 5, 3) := by decide +kernel
theorem d_Mod_add_21 : decode b_Mod_add 21 = .ok (.iconst 0, 1) := by decide +kernel
theorem d_Mod_add_22 : decode b_Mod_add 22 = .ok (.ireturn, 1) := by decide +kernel
theorem d_Mod_add_23 : decode b_Mod_add 23 = .ok (.aload_n 0, 1) := by decide +kernel
theorem d_Mod_add_24 : decode b_Mod_add 24 = .ok (.iload_n 2, 1) := by decide +kernel
theorem d_Mod_add_25 : decode b_Mod_add 25 = .ok (.invokevirtual 45, 3) := by decide +kernel
theorem d_Mod_add_28 : decode b_Mod_add 28 = .ok (.aload_n 0, 1) := by decide +kernel
theorem d_Mod_add_29 : decode b_Mod_add 29 = .ok (.iload_n 3, 1) := by decide +kernel
theorem d_Mod_add_30 : decode b_Mod_add 30 = .ok (.invokevirtual 58, 3) := by decide +kernel
theorem d_Mod_add_33 : decode b_Mod_add 33 = .ok (.aload_n 0, 1) := by decide +kernel
theorem d_Mod_add_34 : decode b_Mod_add 34 = .ok (.invokevirtual 49, 3) := by decide +kernel
theorem d_Mod_add_37 : decode b_Mod_add 37 = .ok (.iconst 0, 1) := by decide +kernel
theorem d_Mod_add_38 : decode b_Mod_add 38 = .ok (.istore 4, 2) := by decide +kernel
theorem d_Mod_add_40 : decode b_Mod_add 40 = .ok (.iconst 0, 1) := by decide +kernel
theorem d_Mod_add_41 : decode b_Mod_add 41 = .ok (.istore 5, 2) := by decide +kernel
theorem d_Mod_add_43 : decode b_Mod_add 43 = .ok (.iload 5, 2) := by decide +kernel
theorem d_Mod_add_45 : decode b_Mod_add 45 = .ok (.sipush 4096, 3) := by decide +kernel
theorem d_Mod_add_48 : decode b_Mod_add 48 = .ok (.if_icmp .gt 48, 3) := by decide +kernel
theorem d_Mod_add_51 : decode b_Mod_add 51 = .ok (.aload_n 0, 1) := by decide +kernel
theorem d_Mod_add_52 : decode b_Mod_add 52 = .ok (.getfield 17, 3) := by decide +kernel
theorem d_Mod_add_55 : decode b_Mod_add 55 = .ok (.iload 5, 2) := by decide +kernel
theorem d_Mod_add_57 : decode b_Mod_add 57 = .ok (.iaload, 1) := by decide +kernel
theorem d_Mod_add_58 : decode b_Mod_add 58 = .ok (.aload_n 0, 1) := by decide +kernel
theorem d_Mod_add_59 : decode b_Mod_add 59 = .ok (.getfield 20, 3) := by decide +kernel
theorem d_Mod_add_62 : decode b_Mod_add 62 = .ok (.iload 5, 2) := by decide +kernel
theorem d_Mod_add_64 : decode b_Mod_add 64 = .ok (.iaload, 1) := by decide +kernel
theorem d_Mod_add_65 : decode b_Mod_add 65 = .ok (.iadd, 1) := by decide +kernel
theorem d_Mod_add_66 : decode b_Mod_add 66 = .ok (.iload 4, 2) := by decide +kernel
theorem d_Mod_add_68 : decode b_Mod_add 68 = .ok (.iadd, 1) := by decide +kernel
theorem d_Mod_add_69 : decode b_Mod_add 69 = .ok (.istore 6, 2) := by decide +kernel
theorem d_Mod_add_71 : decode b_Mod_add 71 = .ok (.iload 6, 2) := by decide +kernel
theorem d_Mod_add_73 : decode b_Mod_add 73 = .ok (.bipush 16, 2) := by decide +kernel
theorem d_Mod_add_75 : decode b_Mod_add 75 = .ok (.ishr, 1) := by decide +kernel
theorem d_Mod_add_76 : decode b_Mod_add 76 = .ok (.istore 4, 2) := by decide +kernel
theorem d_Mod_add_78 : decode b_Mod_add 78 = .ok (.aload_n 0, 1) := by decide +kernel
theorem d_Mod_add_79 : decode b_Mod_add 79 = .ok (.getfield 23, 3) := by decide +kernel
theorem d_Mod_add_82 : decode b_Mod_add 82 = .ok (.iload 5, 2) := by decide +kernel
theorem d_Mod_add_84 : decode b_Mod_add 84 = .ok (.iload 6, 2) := by decide +kernel
theorem d_Mod_add_86 : decode b_Mod_add 86 = .ok (.ldc 40, 2) := by decide +kernel
theorem d_Mod_add_88 : decode b_Mod_add 88 = .ok (.iand, 1) := by decide +kernel
theorem d_Mod_add_89 : decode b_Mod_add 89 = .ok (.iastore, 1) := by decide +kernel
theorem d_Mod_add_90 : decode b_Mod_add 90 = .ok (.iinc 5 1, 3) := by decide +kernel
theorem d_Mod_add_93 : decode b_Mod_add 93 = .ok (.goto (-50), 3) := by decide +kernel
theorem d_Mod_add_96 : decode b_Mod_add 96 = .ok (.aload_n 0, 1) := by decide +kernel
theorem d_Mod_add_97 : decode b_Mod_add 97 = .ok (.iload_n 1, 1) := by decide +kernel
theorem d_Mod_add_98 : decode b_Mod_add 98 = .ok (.aload_n 0, 1) := by decide +kernel
theorem d_Mod_add_99 : decode b_Mod_add 99 = .ok (.getfield 23, 3) := by decide +kernel
theorem d_Mod_add_102 : decode b_Mod_add 102 = .ok (.sipush 4097, 3) := by decide +kernel
theorem d_Mod_add_105 : decode b_Mod_add 105 = .ok (.invokevirtual 54, 3) := by decide +kernel
theorem d_Mod_add_108 : decode b_Mod_add 108 = .ok (.ireturn, 1) := by decide +kernel
theorem d_Mod_bitOf_0 : decode b_Mod_bitOf 0 = .ok (.aload_n 0, 1) := by decide +kernel
theorem d_Mod_bitOf_1 : decode b_Mod_bitOf 1 = .ok (.iload_n 1, 1) := by decide +kernel
theorem d_Mod_bitOf_2 : decode b_Mod_bitOf 2 = .ok (.iconst 4, 1) := by decide +kernel
theorem d_Mod_bitOf_3 : decode b_Mod_bitOf 3 = .ok (.ishr, 1) := by decide +kernel
theorem d_Mod_bitOf_4 : decode b_Mod_bitOf 4 = .ok (.iaload, 1) := by decide +kernel
theorem d_Mod_bitOf_5 : decode b_Mod_bitOf 5 = .ok (.iload_n 1, 1) := by decide +kernel
theorem d_Mod_bitOf_6 : decode b_Mod_bitOf 6 = .ok (.bipush 15, 2) := by decide +kernel
theorem d_Mod_bitOf_8 : decode b_Mod_bitOf 8 = .ok (.iand, 1) := by decide +kernel
theorem d_Mod_bitOf_9 : decode b_Mod_bitOf 9 = .ok (.ishr, 1) := by decide +kernel
theorem d_Mod_bitOf_10 : decode b_Mod_bitOf 10 = .ok (.iconst 1, 1) := by decide +kernel
theorem d_Mod_bitOf_11 : decode b_Mod_bitOf 11 = .ok (.iand, 1) := by decide +kernel
theorem d_Mod_bitOf_12 : decode b_Mod_bitOf 12 = .ok (.ireturn, 1) := by decide +kernel
theorem d_Mod_bits_0 : decode b_Mod_bits 0 = .ok (.iload_n 1, 1) := by decide +kernel
theorem d_Mod_bits_1 : decode b_Mod_bits 1 = .ok (.invokestatic 41, 3) := by decide +kernel
theorem d_Mod_bits_4 : decode b_Mod_bits 4 = .ok (.ifCond .eq 11, 3) := by decide +kernel
theorem d_Mod_bits_7 : decode b_Mod_bits 7 = .ok (.aload_n 0, 1) := by decide +kernel
theorem d_Mod_bits_8 : decode b_Mod_bits 8 = .ok (.iload_n 1, 1) := by decide +kernel
theorem d_Mod_bits_9 : decode b_Mod_bits 9 = .ok (.invokevirtual 87, 3) := by decide +kernel
theorem d_Mod_bits_12 : decode b_Mod_bits 12 = .ok (.goto 4, 3) := by decide +kernel
theorem d_Mod_bits_15 : decode b_Mod_bits 15 = .ok (.iconst (-1), 1) := by decide +kernel
theorem d_Mod_bits_16 : decode b_Mod_bits 16 = .ok (.ireturn, 1) := by decide +kernel
theorem d_Mod_bitsOf_0 : decode b_Mod_bitsOf 0 = .ok (.aload_n 0, 1) := by decide +kernel
theorem d_Mod_bitsOf_1 : decode b_Mod_bitsOf 1 = .ok (.getfield 14, 3) := by decide +kernel
theorem d_Mod_bitsOf_4 : decode b_Mod_bitsOf 4 = .ok (.iload_n 1, 1) := by decide +kernel
theorem d_Mod_bitsOf_5 : decode b_Mod_bitsOf 5 = .ok (.iaload, 1) := by decide +kernel
theorem d_Mod_bitsOf_6 : decode b_Mod_bitsOf 6 = .ok (.ifCond .ne 5, 3) := by decide +kernel
theorem d_Mod_bitsOf_9 : decode b_Mod_bitsOf 9 = .ok (.iconst 0, 1) := by decide +kernel
theorem d_Mod_bitsOf_10 : decode b_Mod_bitsOf 10 = .ok (.ireturn, 1) := by decide +kernel
theorem d_Mod_bitsOf_11 : decode b_Mod_bitsOf 11 = .ok (.bipush 16, 2) := by decide +kernel
theorem d_Mod_bitsOf_13 : decode b_Mod_bitsOf 13 = .ok (.aload_n 0, 1) := by decide +kernel
theorem d_Mod_bitsOf_14 : decode b_Mod_bitsOf 14 = .ok (.getfield 14, 3) := by decide +kernel
theorem d_Mod_bitsOf_17 : decode b_Mod_bitsOf 17 = .ok (.iload_n 1, 1) := by decide +kernel
theorem d_Mod_bitsOf_18 : decode b_Mod_bitsOf 18 = .ok (.iaload, 1) := by decide +kernel
theorem d_Mod_bitsOf_19 : decode b_Mod_bitsOf 19 = .ok (.iconst 1, 1) := by decide +kernel
theorem d_Mod_bitsOf_20 : decode b_Mod_bitsOf 20 = .ok (.isub, 1) := by decide +kernel
theorem d_Mod_bitsOf_21 : decode b_Mod_bitsOf 21 = .ok (.imul, 1) := by decide +kernel
theorem d_Mod_bitsOf_22 : decode b_Mod_bitsOf 22 = .ok (.istore_n 2, 1) := by decide +kernel
theorem d_Mod_bitsOf_23 : decode b_Mod_bitsOf 23 = .ok (.aload_n 0, 1) := by decide +kernel
theorem d_Mod_bitsOf_24 : decode b_Mod_bitsOf 24 = .ok (.getfield 8, 3) := by decide +kernel
theorem d_Mod_bitsOf_27 : decode b_Mod_bitsOf 27 = .ok (.sipush 4096, 3) := by decide +kernel
theorem d_Mod_bitsOf_30 : decode b_Mod_bitsOf 30 = .ok (.iload_n 1, 1) := by decide +kernel
theorem d_Mod_bitsOf_31 : decode b_Mod_bitsOf 31 = .ok (.imul, 1) := by decide +kernel
theorem d_Mod_bitsOf_32 : decode b_Mod_bitsOf 32 = .ok (.aload_n 0, 1) := by decide +kernel
theorem d_Mod_bitsOf_33 : decode b_Mod_bitsOf 33 = .ok (.getfield 14, 3) := by decide +kernel
theorem d_Mod_bitsOf_36 : decode b_Mod_bitsOf 36 = .ok (.iload_n 1, 1) := by decide +kernel
theorem d_Mod_bitsOf_37 : decode b_Mod_bitsOf 37 = .ok (.iaload, 1) := by decide +kernel
theorem d_Mod_bitsOf_38 : decode b_Mod_bitsOf 38 = .ok (.iadd, 1) := by decide +kernel
theorem d_Mod_bitsOf_39 : decode b_Mod_bitsOf 39 = .ok (.iconst 1, 1) := by decide +kernel
theorem d_Mod_bitsOf_40 : decode b_Mod_bitsOf 40 = .ok (.isub, 1) := by decide +kernel
theorem d_Mod_bitsOf_41 : decode b_Mod_bitsOf 41 = .ok (.iaload, 1) := by decide +kernel
theorem d_Mod_bitsOf_42 : decode b_Mod_bitsOf 42 = .ok (.istore_n 3, 1) := by decide +kernel
theorem d_Mod_bitsOf_43 : decode b_Mod_bitsOf 43 = .ok (.iload_n 3, 1) := by decide +kernel
theorem d_Mod_bitsOf_44 : decode b_Mod_bitsOf 44 = .ok (.ifCond .le 13, 3) := by decide +kernel
theorem d_Mod_bitsOf_47 : decode b_Mod_bitsOf 47 = .ok (.iinc 2 1, 3) := by decide +kernel
theorem d_Mod_bitsOf_50 : decode b_Mod_bitsOf 50 = .ok (.iload_n 3, 1) := by decide +kernel
theorem d_Mod_bitsOf_51 : decode b_Mod_bitsOf 51 = .ok (.iconst 1, 1) := by decide +kernel
theorem d_Mod_bitsOf_52 : decode b_Mod_bitsOf 52 = .ok (.ishr, 1) := by decide +kernel
theorem d_Mod_bitsOf_53 : decode b_Mod_bitsOf 53 = .ok (.istore_n 3, 1) := by decide +kernel
theorem d_Mod_bitsOf_54 : decode b_Mod_bitsOf 54 = .ok (.goto (-11), 3) := by decide +kernel
theorem d_Mod_bitsOf_57 : decode b_Mod_bitsOf 57 = .ok (.iload_n 2, 1) := by decide +kernel
theorem d_Mod_bitsOf_58 : decode b_Mod_bitsOf 58 = .ok (.ireturn, 1) := by decide +kernel
theorem d_Mod_clearZ_0 : decode b_Mod_clearZ 0 = .ok (.iconst 0, 1) := by decide +kernel
theorem d_Mod_clearZ_1 : decode b_Mod_clearZ 1 = .ok (.istore_n 1, 1) := by decide +kernel
theorem d_Mod_clearZ_2 : decode b_Mod_clearZ 2 = .ok (.iload_n 1, 1) := by decide +kernel
theorem d_Mod_clearZ_3 : decode b_Mod_clearZ 3 = .ok (.sipush 8200, 3) := by decide +kernel
theorem d_Mod_clearZ_6 : decode b_Mod_clearZ 6 = .ok (.if_icmp .ge 16, 3) := by decide +kernel
theorem d_Mod_clearZ_9 : decode b_Mod_clearZ 9 = .ok (.aload_n 0, 1) := by decide +kernel
theorem d_Mod_clearZ_10 : decode b_Mod_clearZ 10 = .ok (.getfield 23, 3) := by decide +kernel
theorem d_Mod_clearZ_13 : decode b_Mod_clearZ 13 = .ok (.iload_n 1, 1) := by decide +kernel
theorem d_Mod_clearZ_14 : decode b_Mod_clearZ 14 = .ok (.iconst 0, 1) := by decide +kernel
theorem d_Mod_clearZ_15 : decode b_Mod_clearZ 15 = .ok (.iastore, 1) := by decide +kernel
theorem d_Mod_clearZ_16 : decode b_Mod_clearZ 16 = .ok (.iinc 1 1, 3) := by decide +kernel
theorem d_Mod_clearZ_19 : decode b_Mod_clearZ 19 = .ok (.goto (-17), 3) := by decide +kernel
theorem d_Mod_clearZ_22 : decode b_Mod_clearZ 22 = .ok (.aload_n 0, 1) := by decide +kernel
theorem d_Mod_clearZ_23 : decode b_Mod_clearZ 23 = .ok (.iconst 0, 1) := by decide +kernel
theorem d_Mod_clearZ_24 : decode b_Mod_clearZ 24 = .ok (.putfield 33, 3) := by decide +kernel
theorem d_Mod_clearZ_27 : decode b_Mod_clearZ 27 = .ok (.return_, 1) := by decide +kernel
theorem d_Mod_compare_0 : decode b_Mod_compare 0 = .ok (.iload_n 1, 1) := by decide +kernel
theorem d_Mod_compare_1 : decode b_Mod_compare 1 = .ok (.invokestatic 41, 3) := by decide +kernel
theorem d_Mod_compare_4 : decode b_Mod_compare 4 = .ok (.ifCond .eq 10, 3) := by decide +kernel
theorem d_Mod_compare_7 : decode b_Mod_compare 7 = .ok (.iload_n 2, 1) := by decide +kernel
theorem d_Mod_compare_8 : decode b_Mod_compare 8 = .ok (.invokestatic 41, 3) := by decide +kernel
theorem d_Mod_compare_11 : decode b_Mod_compare 11 = .ok (.ifCond .ne 6, 3) := by decide +kernel
theorem d_Mod_compare_14 : decode b_Mod_compare 14 = .ok (.bipush (-2), 2) := by decide +kernel
theorem d_Mod_compare_16 : decode b_Mod_compare 16 = .ok (.ireturn, 1) := by decide +kernel
theorem d_Mod_compare_17 : decode b_Mod_compare 17 = .ok (.aload_n 0, 1) := by decide +kernel
theorem d_Mod_compare_18 : decode b_Mod_compare 18 = .ok (.iload_n 1, 1) := by decide +kernel
theorem d_Mod_compare_19 : decode b_Mod_compare 19 = .ok (.invokevirtual 45, 3) := by decide +kernel
theorem d_Mod_compare_22 : decode b_Mod_compare 22 = .ok (.aload_n 0, 1) := by decide +kernel
theorem d_Mod_compare_23 : decode b_Mod_compare 23 = .ok (.iload_n 2, 1) := by decide +kernel
theorem d_Mod_compare_24 : decode b_Mod_compare 24 = .ok (.invokevirtual 58, 3) := by decide +kernel
theorem d_Mod_compare_27 : decode b_Mod_compare 27 = .ok (.aload_n 0, 1) := by decide +kernel
theorem d_Mod_compare_28 : decode b_Mod_compare 28 = .ok (.getfield 17, 3) := by decide +kernel
theorem d_Mod_compare_31 : decode b_Mod_compare 31 = .ok (.aload_n 0, 1) := by decide +kernel
theorem d_Mod_compare_32 : decode b_Mod_compare 32 = .ok (.getfield 26, 3) := by decide +kernel
theorem d_Mod_compare_35 : decode b_Mod_compare 35 = .ok (.aload_n 0, 1) := by decide +kernel
theorem d_Mod_compare_36 : decode b_Mod_compare 36 = .ok (.getfield 20, 3) := by decide +kernel
theorem d_Mod_compare_39 : decode b_Mod_compare 39 = .ok (.aload_n 0, 1) := by decide +kernel
theorem d_Mod_compare_40 : decode b_Mod_compare 40 = .ok (.getfield 30, 3) := by decide +kernel
theorem d_Mod_compare_43 : decode b_Mod_compare 43 = .ok (.invokestatic 61, 3) := by decide +kernel
theorem d_Mod_compare_46 : decode b_Mod_compare 46 = .ok (.ireturn, 1) := by decide +kernel
theorem d_Mod_compareRows_0 : decode b_Mod_compareRows 0 = .ok (.iload_n 1, 1) := by decide +kernel
theorem d_Mod_compareRows_1 : decode b_Mod_compareRows 1 = .ok (.iload_n 3, 1) := by decide +kernel
theorem d_Mod_compareRows_2 : decode b_Mod_compareRows 2 = .ok (.if_icmp .eq 14, 3) := by decide +kernel
theorem d_Mod_compareRows_5 : decode b_Mod_compareRows 5 = .ok (.iload_n 1, 1) := by decide +kernel
theorem d_Mod_compareRows_6 : decode b_Mod_compareRows 6 = .ok (.iload_n 3, 1) := by decide +kernel
theorem d_Mod_compareRows_7 : decode b_Mod_compareRows 7 = .ok (.if_icmp .ge 7, 3) := by decide +kernel
theorem d_Mod_compareRows_10 : decode b_Mod_compareRows 10 = .ok (.iconst (-1), 1) := by decide +kernel
theorem d_Mod_compareRows_11 : decode b_Mod_compareRows 11 = .ok (.goto 4, 3) := by decide +kernel
theorem d_Mod_compareRows_14 : decode b_Mod_compareRows 14 = .ok (.iconst 1, 1) := by decide +kernel
theorem d_Mod_compareRows_15 : decode b_Mod_compareRows 15 = .ok (.ireturn, 1) := by decide +kernel
theorem d_Mod_compareRows_16 : decode b_Mod_compareRows 16 = .ok (.iload_n 1, 1) := by decide +kernel
theorem d_Mod_compareRows_17 : decode b_Mod_compareRows 17 = .ok (.iconst 1, 1) := by decide +kernel
theorem d_Mod_compareRows_18 : decode b_Mod_compareRows 18 = .ok (.isub, 1) := by decide +kernel
theorem d_Mod_compareRows_19 : decode b_Mod_compareRows 19 = .ok (.istore 4, 2) := by decide +kernel
theorem d_Mod_compareRows_21 : decode b_Mod_compareRows 21 = .ok (.iload 4, 2) := by decide +kernel
theorem d_Mod_compareRows_23 : decode b_Mod_compareRows 23 = .ok (.ifCond .lt 37, 3) := by decide +kernel
theorem d_Mod_compareRows_26 : decode b_Mod_compareRows 26 = .ok (.aload_n 0, 1) := by decide +kernel
theorem d_Mod_compareRows_27 : decode b_Mod_compareRows 27 = .ok (.iload 4, 2) := by decide +kernel
theorem d_Mod_compareRows_29 : decode b_Mod_compareRows 29 = .ok (.iaload, 1) := by decide +kernel
theorem d_Mod_compareRows_30 : decode b_Mod_compareRows 30 = .ok (.aload_n 2, 1) := by decide +kernel
theorem d_Mod_compareRows_31 : decode b_Mod_compareRows 31 = .ok (.iload 4, 2) := by decide +kernel
theorem d_Mod_compareRows_33 : decode b_Mod_compareRows 33 = .ok (.iaload, 1) := by decide +kernel
theorem d_Mod_compareRows_34 : decode b_Mod_compareRows 34 = .ok (.if_icmp .eq 20, 3) := by decide +kernel
theorem d_Mod_compareRows_37 : decode b_Mod_compareRows 37 = .ok (.aload_n 0, 1) := by decide +kernel
theorem d_Mod_compareRows_38 : decode b_Mod_compareRows 38 = .ok (.iload 4, 2) := by decide +kernel
theorem d_Mod_compareRows_40 : decode b_Mod_compareRows 40 = .ok (.iaload, 1) := by decide +kernel
theorem d_Mod_compareRows_41 : decode b_Mod_compareRows 41 = .ok (.aload_n 2, 1) := by decide +kernel
theorem d_Mod_compareRows_42 : decode b_Mod_compareRows 42 = .ok (.iload 4, 2) := by decide +kernel
theorem d_Mod_compareRows_44 : decode b_Mod_compareRows 44 = .ok (.iaload, 1) := by decide +kernel
theorem d_Mod_compareRows_45 : decode b_Mod_compareRows 45 = .ok (.if_icmp .ge 7, 3) := by decide +kernel
theorem d_Mod_compareRows_48 : decode b_Mod_compareRows 48 = .ok (.iconst (-1), 1) := by decide +kernel
theorem d_Mod_compareRows_49 : decode b_Mod_compareRows 49 = .ok (.goto 4, 3) := by decide +kernel
theorem d_Mod_compareRows_52 : decode b_Mod_compareRows 52 = .ok (.iconst 1, 1) := by decide +kernel
theorem d_Mod_compareRows_53 : decode b_Mod_compareRows 53 = .ok (.ireturn, 1) := by decide +kernel
theorem d_Mod_compareRows_54 : decode b_Mod_compareRows 54 = .ok (.iinc 4 (-1), 3) := by decide +kernel
theorem d_Mod_compareRows_57 : decode b_Mod_compareRows 57 = .ok (.goto (-36), 3) := by decide +kernel
theorem d_Mod_compareRows_60 : decode b_Mod_compareRows 60 = .ok (.iconst 0, 1) := by decide +kernel
theorem d_Mod_compareRows_61 : decode b_Mod_compareRows 61 = .ok (.ireturn, 1) := by decide +kernel
theorem d_Mod_copy_0 : decode b_Mod_copy 0 = .ok (.iload_n 1, 1) := by decide +kernel
theorem d_Mod_copy_1 : decode b_Mod_copy 1 = .ok (.invokestatic 41, 3) := by decide +kernel
theorem d_Mod_copy_4 : decode b_Mod_copy 4 = .ok (.ifCond .eq 10, 3) := by decide +kernel
theorem d_Mod_copy_7 : decode b_Mod_copy 7 = .ok (.iload_n 2, 1) := by decide +kernel
theorem d_Mod_copy_8 : decode b_Mod_copy 8 = .ok (.invokestatic 41, 3) := by decide +kernel
theorem d_Mod_copy_11 : decode b_Mod_copy 11 = .ok (.ifCond .ne 5, 3) := by decide +kernel
theorem d_Mod_copy_14 : decode b_Mod_copy 14 = .ok (.iconst 0, 1) := by decide +kernel
theorem d_Mod_copy_15 : decode b_Mod_copy 15 = .ok (.ireturn, 1) := by decide +kernel
theorem d_Mod_copy_16 : decode b_Mod_copy 16 = .ok (.aload_n 0, 1) := by decide +kernel
theorem d_Mod_copy_17 : decode b_Mod_copy 17 = .ok (.iload_n 2, 1) := by decide +kernel
theorem d_Mod_copy_18 : decode b_Mod_copy 18 = .ok (.invokevirtual 45, 3) := by decide +kernel
theorem d_Mod_copy_21 : decode b_Mod_copy 21 = .ok (.aload_n 0, 1) := by decide +kernel
theorem d_Mod_copy_22 : decode b_Mod_copy 22 = .ok (.iload_n 1, 1) := by decide +kernel
theorem d_Mod_copy_23 : decode b_Mod_copy 23 = .ok (.aload_n 0, 1) := by decide +kernel
theorem d_Mod_copy_24 : decode b_Mod_copy 24 = .ok (.getfield 17, 3) := by decide +kernel
theorem d_Mod_copy_27 : decode b_Mod_copy 27 = .ok (.aload_n 0, 1) := by decide +kernel
theorem d_Mod_copy_28 : decode b_Mod_copy 28 = .ok (.getfield 26, 3) := by decide +kernel
theorem d_Mod_copy_31 : decode b_Mod_copy 31 = .ok (.invokevirtual 54, 3) := by decide +kernel
theorem d_Mod_copy_34 : decode b_Mod_copy 34 = .ok (.ireturn, 1) := by decide +kernel
theorem d_Mod_divide_0 : decode b_Mod_divide 0 = .ok (.iload_n 1, 1) := by decide +kernel
theorem d_Mod_divide_1 : decode b_Mod_divide 1 = .ok (.invokestatic 41, 3) := by decide +kernel
theorem d_Mod_divide_4 : decode b_Mod_divide 4 = .ok (.ifCond .eq 40, 3) := by decide +kernel
theorem d_Mod_divide_7 : decode b_Mod_divide 7 = .ok (.iload_n 2, 1) := by decide +kernel
theorem d_Mod_divide_8 : decode b_Mod_divide 8 = .ok (.invokestatic 41, 3) := by decide +kernel
theorem d_Mod_divide_11 : decode b_Mod_divide 11 = .ok (.ifCond .eq 33, 3) := by decide +kernel
theorem d_Mod_divide_14 : decode b_Mod_divide 14 = .ok (.iload_n 3, 1) := by decide +kernel
theorem d_Mod_divide_15 : decode b_Mod_divide 15 = .ok (.invokestatic 41, 3) := by decide +kernel
theorem d_Mod_divide_18 : decode b_Mod_divide 18 = .ok (.ifCond .eq 26, 3) := by decide +kernel
theorem d_Mod_divide_21 : decode b_Mod_divide 21 = .ok (.iload 4, 2) := by decide +kernel
theorem d_Mod_divide_23 : decode b_Mod_divide 23 = .ok (.invokestatic 41, 3) := by decide +kernel
theorem d_Mod_divide_26 : decode b_Mod_divide 26 = .ok (.ifCond .eq 18, 3) := by decide +kernel
theorem d_Mod_divide_29 : decode b_Mod_divide 29 = .ok (.iload_n 1, 1) := by decide +kernel
theorem d_Mod_divide_30 : decode b_Mod_divide 30 = .ok (.iload_n 2, 1) := by decide +kernel
theorem d_Mod_divide_31 : decode b_Mod_divide 31 = .ok (.if_icmp .eq 13, 3) := by decide +kernel
theorem d_Mod_divide_34 : decode b_Mod_divide 34 = .ok (.aload_n 0, 1) := by decide +kernel
theorem d_Mod_divide_35 : decode b_Mod_divide 35 = .ok (.getfield 14, 3) := by decide +kernel
theorem d_Mod_divide_38 : decode b_Mod_divide 38 = .ok (.iload 4, 2) := by decide +kernel
theorem d_Mod_divide_40 : decode b_Mod_divide 40 = .ok (.iaload, 1) := by decide +kernel
theorem d_Mod_divide_41 : decode b_Mod_divide 41 = .ok (.ifCond .ne 5, 3) := by decide +kernel
theorem d_Mod_divide_44 : decode b_Mod_divide 44 = .ok (.iconst 0, 1) := by decide +kernel
theorem d_Mod_divide_45 : decode b_Mod_divide 45 = .ok (.ireturn, 1) := by decide +kernel
theorem d_Mod_divide_46 : decode b_Mod_divide 46 = .ok (.aload_n 0, 1) := by decide +kernel
theorem d_Mod_divide_47 : decode b_Mod_divide 47 = .ok (.iload_n 3, 1) := by decide +kernel
theorem d_Mod_divide_48 : decode b_Mod_divide 48 = .ok (.invokevirtual 45, 3) := by decide +kernel
theorem d_Mod_divide_51 : decode b_Mod_divide 51 = .ok (.aload_n 0, 1) := by decide +kernel
theorem d_Mod_divide_52 : decode b_Mod_divide 52 = .ok (.iload 4, 2) := by decide +kernel
theorem d_Mod_divide_54 : decode b_Mod_divide 54 = .ok (.invokevirtual 58, 3) := by decide +kernel
theorem d_Mod_divide_57 : decode b_Mod_divide 57 = .ok (.aload_n 0, 1) := by decide +kernel
theorem d_Mod_divide_58 : decode b_Mod_divide 58 = .ok (.invokevirtual 49, 3) := by decide +kernel
theorem d_Mod_divide_61 : decode b_Mod_divide 61 = .ok (.aload_n 0, 1) := by decide +kernel
theorem d_Mod_divide_62 : decode b_Mod_divide 62 = .ok (.getfield 26, 3) := by decide +kernel
theorem d_Mod_divide_65 : decode b_Mod_divide 65 = .ok (.istore 5, 2) := by decide +kernel
theorem d_Mod_divide_67 : decode b_Mod_divide 67 = .ok (.bipush 16, 2) := by decide +kernel
theorem d_Mod_divide_69 : decode b_Mod_divide 69 = .ok (.iload 5, 2) := by decide +kernel
theorem d_Mod_divide_71 : decode b_Mod_divide 71 = .ok (.imul, 1) := by decide +kernel
theorem d_Mod_divide_72 : decode b_Mod_divide 72 = .ok (.iconst 1, 1) := by decide +kernel
theorem d_Mod_divide_73 : decode b_Mod_divide 73 = .ok (.isub, 1) := by decide +kernel
theorem d_Mod_divide_74 : decode b_Mod_divide 74 = .ok (.istore 6, 2) := by decide +kernel
theorem d_Mod_divide_76 : decode b_Mod_divide 76 = .ok (.iload 6, 2) := by decide +kernel
theorem d_Mod_divide_78 : decode b_Mod_divide 78 = .ok (.ifCond .lt 135, 3) := by decide +kernel
theorem d_Mod_divide_81 : decode b_Mod_divide 81 = .ok (.aload_n 0, 1) := by decide +kernel
theorem d_Mod_divide_82 : decode b_Mod_divide 82 = .ok (.aload_n 0, 1) := by decide +kernel
theorem d_Mod_divide_83 : decode b_Mod_divide 83 = .ok (.getfield 23, 3) := by decide +kernel
theorem d_Mod_divide_86 : decode b_Mod_divide 86 = .ok (.aload_n 0, 1) := by decide +kernel
theorem d_Mod_divide_87 : decode b_Mod_divide 87 = .ok (.getfield 33, 3) := by decide +kernel
theorem d_Mod_divide_90 : decode b_Mod_divide 90 = .ok (.aload_n 0, 1) := by decide +kernel
theorem d_Mod_divide_91 : decode b_Mod_divide 91 = .ok (.getfield 17, 3) := by decide +kernel
theorem d_Mod_divide_94 : decode b_Mod_divide 94 = .ok (.iload 6, 2) := by decide +kernel
theorem d_Mod_divide_96 : decode b_Mod_divide 96 = .ok (.invokestatic 68, 3) := by decide +kernel
theorem d_Mod_divide_99 : decode b_Mod_divide 99 = .ok (.invokestatic 71, 3) := by decide +kernel
theorem d_Mod_divide_102 : decode b_Mod_divide 102 = .ok (.putfield 33, 3) := by decide +kernel
theorem d_Mod_divide_105 : decode b_Mod_divide 105 = .ok (.aload_n 0, 1) := by decide +kernel
theorem d_Mod_divide_106 : decode b_Mod_divide 106 = .ok (.getfield 23, 3) := by decide +kernel
theorem d_Mod_divide_109 : decode b_Mod_divide 109 = .ok (.aload_n 0, 1) := by decide +kernel
theorem d_Mod_divide_110 : decode b_Mod_divide 110 = .ok (.getfield 33, 3) := by decide +kernel
theorem d_Mod_divide_113 : decode b_Mod_divide 113 = .ok (.aload_n 0, 1) := by decide +kernel
theorem d_Mod_divide_114 : decode b_Mod_divide 114 = .ok (.getfield 20, 3) := by decide +kernel
theorem d_Mod_divide_117 : decode b_Mod_divide 117 = .ok (.aload_n 0, 1) := by decide +kernel
theorem d_Mod_divide_118 : decode b_Mod_divide 118 = .ok (.getfield 30, 3) := by decide +kernel
theorem d_Mod_divide_121 : decode b_Mod_divide 121 = .ok (.invokestatic 61, 3) := by decide +kernel
theorem d_Mod_divide_124 : decode b_Mod_divide 124 = .ok (.ifCond .lt 7, 3) := by decide +kernel
theorem d_Mod_divide_127 : decode b_Mod_divide 127 = .ok (.iconst 1, 1) := by decide +kernel
theorem d_Mod_divide_128 : decode b_Mod_divide 128 = .ok (.goto 4, 3) := by decide +kernel
theorem d_Mod_divide_131 : decode b_Mod_divide 131 = .ok (.iconst 0, 1) := by decide +kernel
theorem d_Mod_divide_132 : decode b_Mod_divide 132 = .ok (.istore 7, 2) := by decide +kernel
theorem d_Mod_divide_134 : decode b_Mod_divide 134 = .ok (.iload 7, 2) := by decide +kernel
theorem d_Mod_divide_136 : decode b_Mod_divide 136 = .ok (.ifCond .eq 26, 3) := by decide +kernel
theorem d_Mod_divide_139 : decode b_Mod_divide 139 = .ok (.aload_n 0, 1) := by decide +kernel
theorem d_Mod_divide_140 : decode b_Mod_divide 140 = .ok (.aload_n 0, 1) := by decide +kernel
theorem d_Mod_divide_141 : decode b_Mod_divide 141 = .ok (.getfield 23, 3) := by decide +kernel
theorem d_Mod_divide_144 : decode b_Mod_divide 144 = .ok (.aload_n 0, 1) := by decide +kernel
theorem d_Mod_divide_145 : decode b_Mod_divide 145 = .ok (.getfield 33, 3) := by decide +kernel
theorem d_Mod_divide_148 : decode b_Mod_divide 148 = .ok (.aload_n 0, 1) := by decide +kernel
theorem d_Mod_divide_149 : decode b_Mod_divide 149 = .ok (.getfield 20, 3) := by decide +kernel
theorem d_Mod_divide_152 : decode b_Mod_divide 152 = .ok (.aload_n 0, 1) := by decide +kernel
theorem d_Mod_divide_153 : decode b_Mod_divide 153 = .ok (.getfield 30, 3) := by decide +kernel
theorem d_Mod_divide_156 : decode b_Mod_divide 156 = .ok (.invokestatic 65, 3) := by decide +kernel
theorem d_Mod_divide_159 : decode b_Mod_divide 159 = .ok (.putfield 33, 3) := by decide +kernel
theorem d_Mod_divide_162 : decode b_Mod_divide 162 = .ok (.aload_n 0, 1) := by decide +kernel
theorem d_Mod_divide_163 : decode b_Mod_divide 163 = .ok (.getfield 17, 3) := by decide +kernel
theorem d_Mod_divide_166 : decode b_Mod_divide 166 = .ok (.iload 6, 2) := by decide +kernel
theorem d_Mod_divide_168 : decode b_Mod_divide 168 = .ok (.iconst 4, 1) := by decide +kernel
theorem d_Mod_divide_169 : decode b_Mod_divide 169 = .ok (.ishr, 1) := by decide +kernel
theorem d_Mod_divide_170 : decode b_Mod_divide 170 = .ok (.aload_n 0, 1) := by decide +kernel
theorem d_Mod_divide_171 : decode b_Mod_divide 171 = .ok (.getfield 17, 3) := by decide +kernel
theorem d_Mod_divide_174 : decode b_Mod_divide 174 = .ok (.iload 6, 2) := by decide +kernel
theorem d_Mod_divide_176 : decode b_Mod_divide 176 = .ok (.iconst 4, 1) := by decide +kernel
theorem d_Mod_divide_177 : decode b_Mod_divide 177 = .ok (.ishr, 1) := by decide +kernel
theorem d_Mod_divide_178 : decode b_Mod_divide 178 = .ok (.iaload, 1) := by decide +kernel
theorem d_Mod_divide_179 : decode b_Mod_divide 179 = .ok (.iconst 1, 1) := by decide +kernel
theorem d_Mod_divide_180 : decode b_Mod_divide 180 = .ok (.iload 6, 2) := by decide +kernel
theorem d_Mod_divide_182 : decode b_Mod_divide 182 = .ok (.bipush 15, 2) := by decide +kernel
theorem d_Mod_divide_184 : decode b_Mod_divide 184 = .ok (.iand, 1) := by decide +kernel
theorem d_Mod_divide_185 : decode b_Mod_divide 185 = .ok (.ishl, 1) := by decide +kernel
theorem d_Mod_divide_186 : decode b_Mod_divide 186 = .ok (.iconst (-1), 1) := by decide +kernel
theorem d_Mod_divide_187 : decode b_Mod_divide 187 = .ok (.ixor, 1) := by decide +kernel
theorem d_Mod_divide_188 : decode b_Mod_divide 188 = .ok (.iand, 1) := by decide +kernel
theorem d_Mod_divide_189 : decode b_Mod_divide 189 = .ok (.iload 7, 2) := by decide +kernel
theorem d_Mod_divide_191 : decode b_Mod_divide 191 = .ok (.ifCond .eq 13, 3) := by decide +kernel
theorem d_Mod_divide_194 : decode b_Mod_divide 194 = .ok (.iconst 1, 1) := by decide +kernel
theorem d_Mod_divide_195 : decode b_Mod_divide 195 = .ok (.iload 6, 2) := by decide +kernel
theorem d_Mod_divide_197 : decode b_Mod_divide 197 = .ok (.bipush 15, 2) := by decide +kernel
theorem d_Mod_divide_199 : decode b_Mod_divide 199 = .ok (.iand, 1) := by decide +kernel
theorem d_Mod_divide_200 : decode b_Mod_divide 200 = .ok (.ishl, 1) := by decide +kernel
theorem d_Mod_divide_201 : decode b_Mod_divide 201 = .ok (.goto 4, 3) := by decide +kernel
theorem d_Mod_divide_204 : decode b_Mod_divide 204 = .ok (.iconst 0, 1) := by decide +kernel
theorem d_Mod_divide_205 : decode b_Mod_divide 205 = .ok (.ior, 1) := by decide +kernel
theorem d_Mod_divide_206 : decode b_Mod_divide 206 = .ok (.iastore, 1) := by decide +kernel
theorem d_Mod_divide_207 : decode b_Mod_divide 207 = .ok (.iinc 6 (-1), 3) := by decide +kernel
theorem d_Mod_divide_210 : decode b_Mod_divide 210 = .ok (.goto (-134), 3) := by decide +kernel
theorem d_Mod_divide_213 : decode b_Mod_divide 213 = .ok (.aload_n 0, 1) := by decide +kernel
theorem d_Mod_divide_214 : decode b_Mod_divide 214 = .ok (.iload_n 1, 1) := by decide +kernel
theorem d_Mod_divide_215 : decode b_Mod_divide 215 = .ok (.aload_n 0, 1) := by decide +kernel
theorem d_Mod_divide_216 : decode b_Mod_divide 216 = .ok (.getfield 17, 3) := by decide +kernel
theorem d_Mod_divide_219 : decode b_Mod_divide 219 = .ok (.iload 5, 2) := by decide +kernel
theorem d_Mod_divide_221 : decode b_Mod_divide 221 = .ok (.invokevirtual 54, 3) := by decide +kernel
theorem d_Mod_divide_224 : decode b_Mod_divide 224 = .ok (.ifCond .eq 23, 3) := by decide +kernel
theorem d_Mod_divide_227 : decode b_Mod_divide 227 = .ok (.aload_n 0, 1) := by decide +kernel
theorem d_Mod_divide_228 : decode b_Mod_divide 228 = .ok (.iload_n 2, 1) := by decide +kernel
theorem d_Mod_divide_229 : decode b_Mod_divide 229 = .ok (.aload_n 0, 1) := by decide +kernel
theorem d_Mod_divide_230 : decode b_Mod_divide 230 = .ok (.getfield 23, 3) := by decide +kernel
theorem d_Mod_divide_233 : decode b_Mod_divide 233 = .ok (.aload_n 0, 1) := by decide +kernel
theorem d_Mod_divide_234 : decode b_Mod_divide 234 = .ok (.getfield 33, 3) := by decide +kernel
theorem d_Mod_divide_237 : decode b_Mod_divide 237 = .ok (.invokevirtual 54, 3) := by decide +kernel
theorem d_Mod_divide_240 : decode b_Mod_divide 240 = .ok (.ifCond .eq 7, 3) := by decide +kernel
theorem d_Mod_divide_243 : decode b_Mod_divide 243 = .ok (.iconst 1, 1) := by decide +kernel
theorem d_Mod_divide_244 : decode b_Mod_divide 244 = .ok (.goto 4, 3) := by decide +kernel
theorem d_Mod_divide_247 : decode b_Mod_divide 247 = .ok (.iconst 0, 1) := by decide +kernel
theorem d_Mod_divide_248 : decode b_Mod_divide 248 = .ok (.ireturn, 1) := by decide +kernel
theorem d_Mod_halve_0 : decode b_Mod_halve 0 = .ok (.iconst 0, 1) := by decide +kernel
theorem d_Mod_halve_1 : decode b_Mod_halve 1 = .ok (.istore_n 1, 1) := by decide +kernel
theorem d_Mod_halve_2 : decode b_Mod_halve 2 = .ok (.iload_n 1, 1) := by decide +kernel
theorem d_Mod_halve_3 : decode b_Mod_halve 3 = .ok (.aload_n 0, 1) := by decide +kernel
theorem d_Mod_halve_4 : decode b_Mod_halve 4 = .ok (.getfield 30, 3) := by decide +kernel
theorem d_Mod_halve_7 : decode b_Mod_halve 7 = .ok (.if_icmp .ge 37, 3) := by decide +kernel
theorem d_Mod_halve_10 : decode b_Mod_halve 10 = .ok (.aload_n 0, 1) := by decide +kernel
theorem d_Mod_halve_11 : decode b_Mod_halve 11 = .ok (.getfield 20, 3) := by decide +kernel
theorem d_Mod_halve_14 : decode b_Mod_halve 14 = .ok (.iload_n 1, 1) := by decide +kernel
theorem d_Mod_halve_15 : decode b_Mod_halve 15 = .ok (.aload_n 0, 1) := by decide +kernel
theorem d_Mod_halve_16 : decode b_Mod_halve 16 = .ok (.getfield 20, 3) := by decide +kernel
theorem d_Mod_halve_19 : decode b_Mod_halve 19 = .ok (.iload_n 1, 1) := by decide +kernel
theorem d_Mod_halve_20 : decode b_Mod_halve 20 = .ok (.iaload, 1) := by decide +kernel
theorem d_Mod_halve_21 : decode b_Mod_halve 21 = .ok (.iconst 1, 1) := by decide +kernel
theorem d_Mod_halve_22 : decode b_Mod_halve 22 = .ok (.ishr, 1) := by decide +kernel
theorem d_Mod_halve_23 : decode b_Mod_halve 23 = .ok (.aload_n 0, 1) := by decide +kernel
theorem d_Mod_halve_24 : decode b_Mod_halve 24 = .ok (.getfield 20, 3) := by decide +kernel
theorem d_Mod_halve_27 : decode b_Mod_halve 27 = .ok (.iload_n 1, 1) := by decide +kernel
theorem d_Mod_halve_28 : decode b_Mod_halve 28 = .ok (.iconst 1, 1) := by decide +kernel
theorem d_Mod_halve_29 : decode b_Mod_halve 29 = .ok (.iadd, 1) := by decide +kernel
theorem d_Mod_halve_30 : decode b_Mod_halve 30 = .ok (.iaload, 1) := by decide +kernel
theorem d_Mod_halve_31 : decode b_Mod_halve 31 = .ok (.iconst 1, 1) := by decide +kernel
theorem d_Mod_halve_32 : decode b_Mod_halve 32 = .ok (.iand, 1) := by decide +kernel
theorem d_Mod_halve_33 : decode b_Mod_halve 33 = .ok (.bipush 15, 2) := by decide +kernel
theorem d_Mod_halve_35 : decode b_Mod_halve 35 = .ok (.ishl, 1) := by decide +kernel
theorem d_Mod_halve_36 : decode b_Mod_halve 36 = .ok (.ior, 1) := by decide +kernel
theorem d_Mod_halve_37 : decode b_Mod_halve 37 = .ok (.iastore, 1) := by decide +kernel
theorem d_Mod_halve_38 : decode b_Mod_halve 38 = .ok (.iinc 1 1, 3) := by decide +kernel
theorem d_Mod_halve_41 : decode b_Mod_halve 41 = .ok (.goto (-39), 3) := by decide +kernel
theorem d_Mod_halve_44 : decode b_Mod_halve 44 = .ok (.aload_n 0, 1) := by decide +kernel
theorem d_Mod_halve_45 : decode b_Mod_halve 45 = .ok (.aload_n 0, 1) := by decide +kernel
theorem d_Mod_halve_46 : decode b_Mod_halve 46 = .ok (.getfield 20, 3) := by decide +kernel
theorem d_Mod_halve_49 : decode b_Mod_halve 49 = .ok (.aload_n 0, 1) := by decide +kernel
theorem d_Mod_halve_50 : decode b_Mod_halve 50 = .ok (.getfield 30, 3) := by decide +kernel
theorem d_Mod_halve_53 : decode b_Mod_halve 53 = .ok (.invokestatic 36, 3) := by decide +kernel
theorem d_Mod_halve_56 : decode b_Mod_halve 56 = .ok (.putfield 30, 3) := by decide +kernel
theorem d_Mod_halve_59 : decode b_Mod_halve 59 = .ok (.return_, 1) := by decide +kernel
theorem d_Mod_init_0 : decode b_Mod_init 0 = .ok (.aload_n 0, 1) := by decide +kernel
theorem d_Mod_init_1 : decode b_Mod_init 1 = .ok (.invokespecial 1, 3) := by decide +kernel
theorem d_Mod_init_4 : decode b_Mod_init 4 = .ok (.aload_n 0, 1) := by decide +kernel
theorem d_Mod_init_5 : decode b_Mod_init 5 = .ok (.ldc 7, 2) := by decide +kernel
theorem d_Mod_init_7 : decode b_Mod_init 7 = .ok (.newarray .int, 2) := by decide +kernel
theorem d_Mod_init_9 : decode b_Mod_init 9 = .ok (.putfield 8, 3) := by decide +kernel
theorem d_Mod_init_12 : decode b_Mod_init 12 = .ok (.aload_n 0, 1) := by decide +kernel
theorem d_Mod_init_13 : decode b_Mod_init 13 = .ok (.bipush 16, 2) := by decide +kernel
theorem d_Mod_init_15 : decode b_Mod_init 15 = .ok (.newarray .int, 2) := by decide +kernel
theorem d_Mod_init_17 : decode b_Mod_init 17 = .ok (.putfield 14, 3) := by decide +kernel
theorem d_Mod_init_20 : decode b_Mod_init 20 = .ok (.aload_n 0, 1) := by decide +kernel
theorem d_Mod_init_21 : decode b_Mod_init 21 = .ok (.sipush 8200, 3) := by decide +kernel
theorem d_Mod_init_24 : decode b_Mod_init 24 = .ok (.newarray .int, 2) := by decide +kernel
theorem d_Mod_init_26 : decode b_Mod_init 26 = .ok (.putfield 17, 3) := by decide +kernel
theorem d_Mod_init_29 : decode b_Mod_init 29 = .ok (.aload_n 0, 1) := by decide +kernel
theorem d_Mod_init_30 : decode b_Mod_init 30 = .ok (.sipush 8200, 3) := by decide +kernel
theorem d_Mod_init_33 : decode b_Mod_init 33 = .ok (.newarray .int, 2) := by decide +kernel
theorem d_Mod_init_35 : decode b_Mod_init 35 = .ok (.putfield 20, 3) := by decide +kernel
theorem d_Mod_init_38 : decode b_Mod_init 38 = .ok (.aload_n 0, 1) := by decide +kernel
theorem d_Mod_init_39 : decode b_Mod_init 39 = .ok (.sipush 8200, 3) := by decide +kernel
theorem d_Mod_init_42 : decode b_Mod_init 42 = .ok (.newarray .int, 2) := by decide +kernel
theorem d_Mod_init_44 : decode b_Mod_init 44 = .ok (.putfield 23, 3) := by decide +kernel
theorem d_Mod_init_47 : decode b_Mod_init 47 = .ok (.return_, 1) := by decide +kernel
theorem d_Mod_isRegister_0 : decode b_Mod_isRegister 0 = .ok (.iload_n 0, 1) := by decide +kernel
theorem d_Mod_isRegister_1 : decode b_Mod_isRegister 1 = .ok (.ifCond .lt 13, 3) := by decide +kernel
theorem d_Mod_isRegister_4 : decode b_Mod_isRegister 4 = .ok (.iload_n 0, 1) := by decide +kernel
theorem d_Mod_isRegister_5 : decode b_Mod_isRegister 5 = .ok (.bipush 16, 2) := by decide +kernel
theorem d_Mod_isRegister_7 : decode b_Mod_isRegister 7 = .ok (.if_icmp .ge 7, 3) := by decide +kernel
theorem d_Mod_isRegister_10 : decode b_Mod_isRegister 10 = .ok (.iconst 1, 1) := by decide +kernel
theorem d_Mod_isRegister_11 : decode b_Mod_isRegister 11 = .ok (.goto 4, 3) := by decide +kernel
theorem d_Mod_isRegister_14 : decode b_Mod_isRegister 14 = .ok (.iconst 0, 1) := by decide +kernel
theorem d_Mod_isRegister_15 : decode b_Mod_isRegister 15 = .ok (.ireturn, 1) := by decide +kernel
theorem d_Mod_lessen_0 : decode b_Mod_lessen 0 = .ok (.iconst 0, 1) := by decide +kernel
theorem d_Mod_lessen_1 : decode b_Mod_lessen 1 = .ok (.istore 4, 2) := by decide +kernel
theorem d_Mod_lessen_3 : decode b_Mod_lessen 3 = .ok (.iconst 0, 1) := by decide +kernel
theorem d_Mod_lessen_4 : decode b_Mod_lessen 4 = .ok (.istore 5, 2) := by decide +kernel
theorem d_Mod_lessen_6 : decode b_Mod_lessen 6 = .ok (.iload 5, 2) := by decide +kernel
theorem d_Mod_lessen_8 : decode b_Mod_lessen 8 = .ok (.iload_n 1, 1) := by decide +kernel
theorem d_Mod_lessen_9 : decode b_Mod_lessen 9 = .ok (.if_icmp .ge 64, 3) := by decide +kernel
theorem d_Mod_lessen_12 : decode b_Mod_lessen 12 = .ok (.aload_n 0, 1) := by decide +kernel
theorem d_Mod_lessen_13 : decode b_Mod_lessen 13 = .ok (.iload 5, 2) := by decide +kernel
theorem d_Mod_lessen_15 : decode b_Mod_lessen 15 = .ok (.iaload, 1) := by decide +kernel
theorem d_Mod_lessen_16 : decode b_Mod_lessen 16 = .ok (.iload 5, 2) := by decide +kernel
theorem d_Mod_lessen_18 : decode b_Mod_lessen 18 = .ok (.iload_n 3, 1) := by decide +kernel
theorem d_Mod_lessen_19 : decode b_Mod_lessen 19 = .ok (.if_icmp .ge 10, 3) := by decide +kernel
theorem d_Mod_lessen_22 : decode b_Mod_lessen 22 = .ok (.aload_n 2, 1) := by decide +kernel
theorem d_Mod_lessen_23 : decode b_Mod_lessen 23 = .ok (.iload 5, 2) := by decide +kernel
theorem d_Mod_lessen_25 : decode b_Mod_lessen 25 = .ok (.iaload, 1) := by decide +kernel
theorem d_Mod_lessen_26 : decode b_Mod_lessen 26 = .ok (.goto 4, 3) := by decide +kernel
theorem d_Mod_lessen_29 : decode b_Mod_lessen 29 = .ok (.iconst 0, 1) := by decide +kernel
theorem d_Mod_lessen_30 : decode b_Mod_lessen 30 = .ok (.isub, 1) := by decide +kernel
theorem d_Mod_lessen_31 : decode b_Mod_lessen 31 = .ok (.iload 4, 2) := by decide +kernel
theorem d_Mod_lessen_33 : decode b_Mod_lessen 33 = .ok (.isub, 1) := by decide +kernel
theorem d_Mod_lessen_34 : decode b_Mod_lessen 34 = .ok (.istore 6, 2) := by decide +kernel
theorem d_Mod_lessen_36 : decode b_Mod_lessen 36 = .ok (.iload 6, 2) := by decide +kernel
theorem d_Mod_lessen_38 : decode b_Mod_lessen 38 = .ok (.ifCond .ge 7, 3) := by decide +kernel
theorem d_Mod_lessen_41 : decode b_Mod_lessen 41 = .ok (.iconst 1, 1) := by decide +kernel
theorem d_Mod_lessen_42 : decode b_Mod_lessen 42 = .ok (.goto 4, 3) := by decide +kernel
theorem d_Mod_lessen_45 : decode b_Mod_lessen 45 = .ok (.iconst 0, 1) := by decide +kernel
theorem d_Mod_lessen_46 : decode b_Mod_lessen 46 = .ok (.istore 4, 2) := by decide +kernel
theorem d_Mod_lessen_48 : decode b_Mod_lessen 48 = .ok (.aload_n 0, 1) := by decide +kernel
theorem d_Mod_lessen_49 : decode b_Mod_lessen 49 = .ok (.iload 5, 2) := by decide +kernel
theorem d_Mod_lessen_51 : decode b_Mod_lessen 51 = .ok (.iload 6, 2) := by decide +kernel
theorem d_Mod_lessen_53 : decode b_Mod_lessen 53 = .ok (.ifCond .ge 11, 3) := by decide +kernel
theorem d_Mod_lessen_56 : decode b_Mod_lessen 56 = .ok (.iload 6, 2) := by decide +kernel
theorem d_Mod_lessen_58 : decode b_Mod_lessen 58 = .ok (.ldc 7, 2) := by decide +kernel
theorem d_Mod_lessen_60 : decode b_Mod_lessen 60 = .ok (.iadd, 1) := by decide +kernel
theorem d_Mod_lessen_61 : decode b_Mod_lessen 61 = .ok (.goto 5, 3) := by decide +kernel
theorem d_Mod_lessen_64 : decode b_Mod_lessen 64 = .ok (.iload 6, 2) := by decide +kernel
theorem d_Mod_lessen_66 : decode b_Mod_lessen 66 = .ok (.iastore, 1) := by decide +kernel
theorem d_Mod_lessen_67 : decode b_Mod_lessen 67 = .ok (.iinc 5 1, 3) := by decide +kernel
theorem d_Mod_lessen_70 : decode b_Mod_lessen 70 = .ok (.goto (-64), 3) := by decide +kernel
theorem d_Mod_lessen_73 : decode b_Mod_lessen 73 = .ok (.aload_n 0, 1) := by decide +kernel
theorem d_Mod_lessen_74 : decode b_Mod_lessen 74 = .ok (.iload_n 1, 1) := by decide +kernel
theorem d_Mod_lessen_75 : decode b_Mod_lessen 75 = .ok (.invokestatic 36, 3) := by decide +kernel
theorem d_Mod_lessen_78 : decode b_Mod_lessen 78 = .ok (.ireturn, 1) := by decide +kernel
theorem d_Mod_loadX_0 : decode b_Mod_loadX 0 = .ok (.iconst 0, 1) := by decide +kernel
theorem d_Mod_loadX_1 : decode b_Mod_loadX 1 = .ok (.istore_n 2, 1) := by decide +kernel
theorem d_Mod_loadX_2 : decode b_Mod_loadX 2 = .ok (.iload_n 2, 1) := by decide +kernel
theorem d_Mod_loadX_3 : decode b_Mod_loadX 3 = .ok (.sipush 8200, 3) := by decide +kernel
theorem d_Mod_loadX_6 : decode b_Mod_loadX 6 = .ok (.if_icmp .ge 41, 3) := by decide +kernel
theorem d_Mod_loadX_9 : decode b_Mod_loadX 9 = .ok (.aload_n 0, 1) := by decide +kernel
theorem d_Mod_loadX_10 : decode b_Mod_loadX 10 = .ok (.getfield 17, 3) := by decide +kernel
theorem d_Mod_loadX_13 : decode b_Mod_loadX 13 = .ok (.iload_n 2, 1) := by decide +kernel
theorem d_Mod_loadX_14 : decode b_Mod_loadX 14 = .ok (.iload_n 2, 1) := by decide +kernel
theorem d_Mod_loadX_15 : decode b_Mod_loadX 15 = .ok (.aload_n 0, 1) := by decide +kernel
theorem d_Mod_loadX_16 : decode b_Mod_loadX 16 = .ok (.getfield 14, 3) := by decide +kernel
theorem d_Mod_loadX_19 : decode b_Mod_loadX 19 = .ok (.iload_n 1, 1) := by decide +kernel
theorem d_Mod_loadX_20 : decode b_Mod_loadX 20 = .ok (.iaload, 1) := by decide +kernel
theorem d_Mod_loadX_21 : decode b_Mod_loadX 21 = .ok (.if_icmp .ge 18, 3) := by decide +kernel
theorem d_Mod_loadX_24 : decode b_Mod_loadX 24 = .ok (.aload_n 0, 1) := by decide +kernel
theorem d_Mod_loadX_25 : decode b_Mod_loadX 25 = .ok (.getfield 8, 3) := by decide +kernel
theorem d_Mod_loadX_28 : decode b_Mod_loadX 28 = .ok (.sipush 4096, 3) := by decide +kernel
theorem d_Mod_loadX_31 : decode b_Mod_loadX 31 = .ok (.iload_n 1, 1) := by decide +kernel
theorem d_Mod_loadX_32 : decode b_Mod_loadX 32 = .ok (.imul, 1) := by decide +kernel
theorem d_Mod_loadX_33 : decode b_Mod_loadX 33 = .ok (.iload_n 2, 1) := by decide +kernel
theorem d_Mod_loadX_34 : decode b_Mod_loadX 34 = .ok (.iadd, 1) := by decide +kernel
theorem d_Mod_loadX_35 : decode b_Mod_loadX 35 = .ok (.iaload, 1) := by decide +kernel
theorem d_Mod_loadX_36 : decode b_Mod_loadX 36 = .ok (.goto 4, 3) := by decide +kernel
theorem d_Mod_loadX_39 : decode b_Mod_loadX 39 = .ok (.iconst 0, 1) := by decide +kernel
theorem d_Mod_loadX_40 : decode b_Mod_loadX 40 = .ok (.iastore, 1) := by decide +kernel
theorem d_Mod_loadX_41 : decode b_Mod_loadX 41 = .ok (.iinc 2 1, 3) := by decide +kernel
theorem d_Mod_loadX_44 : decode b_Mod_loadX 44 = .ok (.goto (-42), 3) := by decide +kernel
theorem d_Mod_loadX_47 : decode b_Mod_loadX 47 = .ok (.aload_n 0, 1) := by decide +kernel
theorem d_Mod_loadX_48 : decode b_Mod_loadX 48 = .ok (.aload_n 0, 1) := by decide +kernel
theorem d_Mod_loadX_49 : decode b_Mod_loadX 49 = .ok (.getfield 14, 3) := by decide +kernel
theorem d_Mod_loadX_52 : decode b_Mod_loadX 52 = .ok (.iload_n 1, 1) := by decide +kernel
theorem d_Mod_loadX_53 : decode b_Mod_loadX 53 = .ok (.iaload, 1) := by decide +kernel
theorem d_Mod_loadX_54 : decode b_Mod_loadX 54 = .ok (.putfield 26, 3) := by decide +kernel
theorem d_Mod_loadX_57 : decode b_Mod_loadX 57 = .ok (.return_, 1) := by decide +kernel
theorem d_Mod_loadY_0 : decode b_Mod_loadY 0 = .ok (.iconst 0, 1) := by decide +kernel
theorem d_Mod_loadY_1 : decode b_Mod_loadY 1 = .ok (.istore_n 2, 1) := by decide +kernel
theorem d_Mod_loadY_2 : decode b_Mod_loadY 2 = .ok (.iload_n 2, 1) := by decide +kernel
theorem d_Mod_loadY_3 : decode b_Mod_loadY 3 = .ok (.sipush 8200, 3) := by decide +kernel
theorem d_Mod_loadY_6 : decode b_Mod_loadY 6 = .ok (.if_icmp .ge 41, 3) := by decide +kernel
theorem d_Mod_loadY_9 : decode b_Mod_loadY 9 = .ok (.aload_n 0, 1) := by decide +kernel
theorem d_Mod_loadY_10 : decode b_Mod_loadY 10 = .ok (.getfield 20, 3) := by decide +kernel
theorem d_Mod_loadY_13 : decode b_Mod_loadY 13 = .ok (.iload_n 2, 1) := by decide +kernel
theorem d_Mod_loadY_14 : decode b_Mod_loadY 14 = .ok (.iload_n 2, 1) := by decide +kernel
theorem d_Mod_loadY_15 : decode b_Mod_loadY 15 = .ok (.aload_n 0, 1) := by decide +kernel
theorem d_Mod_loadY_16 : decode b_Mod_loadY 16 = .ok (.getfield 14, 3) := by decide +kernel
theorem d_Mod_loadY_19 : decode b_Mod_loadY 19 = .ok (.iload_n 1, 1) := by decide +kernel
theorem d_Mod_loadY_20 : decode b_Mod_loadY 20 = .ok (.iaload, 1) := by decide +kernel
theorem d_Mod_loadY_21 : decode b_Mod_loadY 21 = .ok (.if_icmp .ge 18, 3) := by decide +kernel
theorem d_Mod_loadY_24 : decode b_Mod_loadY 24 = .ok (.aload_n 0, 1) := by decide +kernel
theorem d_Mod_loadY_25 : decode b_Mod_loadY 25 = .ok (.getfield 8, 3) := by decide +kernel
theorem d_Mod_loadY_28 : decode b_Mod_loadY 28 = .ok (.sipush 4096, 3) := by decide +kernel
theorem d_Mod_loadY_31 : decode b_Mod_loadY 31 = .ok (.iload_n 1, 1) := by decide +kernel
theorem d_Mod_loadY_32 : decode b_Mod_loadY 32 = .ok (.imul, 1) := by decide +kernel
theorem d_Mod_loadY_33 : decode b_Mod_loadY 33 = .ok (.iload_n 2, 1) := by decide +kernel
theorem d_Mod_loadY_34 : decode b_Mod_loadY 34 = .ok (.iadd, 1) := by decide +kernel
theorem d_Mod_loadY_35 : decode b_Mod_loadY 35 = .ok (.iaload, 1) := by decide +kernel
theorem d_Mod_loadY_36 : decode b_Mod_loadY 36 = .ok (.goto 4, 3) := by decide +kernel
theorem d_Mod_loadY_39 : decode b_Mod_loadY 39 = .ok (.iconst 0, 1) := by decide +kernel
theorem d_Mod_loadY_40 : decode b_Mod_loadY 40 = .ok (.iastore, 1) := by decide +kernel
theorem d_Mod_loadY_41 : decode b_Mod_loadY 41 = .ok (.iinc 2 1, 3) := by decide +kernel
theorem d_Mod_loadY_44 : decode b_Mod_loadY 44 = .ok (.goto (-42), 3) := by decide +kernel
theorem d_Mod_loadY_47 : decode b_Mod_loadY 47 = .ok (.aload_n 0, 1) := by decide +kernel
theorem d_Mod_loadY_48 : decode b_Mod_loadY 48 = .ok (.aload_n 0, 1) := by decide +kernel
theorem d_Mod_loadY_49 : decode b_Mod_loadY 49 = .ok (.getfield 14, 3) := by decide +kernel
theorem d_Mod_loadY_52 : decode b_Mod_loadY 52 = .ok (.iload_n 1, 1) := by decide +kernel
theorem d_Mod_loadY_53 : decode b_Mod_loadY 53 = .ok (.iaload, 1) := by decide +kernel
theorem d_Mod_loadY_54 : decode b_Mod_loadY 54 = .ok (.putfield 30, 3) := by decide +kernel
theorem d_Mod_loadY_57 : decode b_Mod_loadY 57 = .ok (.return_, 1) := by decide +kernel
theorem d_Mod_lowest_0 : decode b_Mod_lowest 0 = .ok (.iload_n 1, 1) := by decide +kernel
theorem d_Mod_lowest_1 : decode b_Mod_lowest 1 = .ok (.invokestatic 41, 3) := by decide +kernel
theorem d_Mod_lowest_4 : decode b_Mod_lowest 4 = .ok (.ifCond .eq 12, 3) := by decide +kernel
theorem d_Mod_lowest_7 : decode b_Mod_lowest 7 = .ok (.aload_n 0, 1) := by decide +kernel
theorem d_Mod_lowest_8 : decode b_Mod_lowest 8 = .ok (.getfield 14, 3) := by decide +kernel
theorem d_Mod_lowest_11 : decode b_Mod_lowest 11 = .ok (.iload_n 1, 1) := by decide +kernel
theorem d_Mod_lowest_12 : decode b_Mod_lowest 12 = .ok (.iaload, 1) := by decide +kernel
theorem d_Mod_lowest_13 : decode b_Mod_lowest 13 = .ok (.ifCond .ne 5, 3) := by decide +kernel
theorem d_Mod_lowest_16 : decode b_Mod_lowest 16 = .ok (.iconst (-1), 1) := by decide +kernel
theorem d_Mod_lowest_17 : decode b_Mod_lowest 17 = .ok (.ireturn, 1) := by decide +kernel
theorem d_Mod_lowest_18 : decode b_Mod_lowest 18 = .ok (.iconst 0, 1) := by decide +kernel
theorem d_Mod_lowest_19 : decode b_Mod_lowest 19 = .ok (.istore_n 2, 1) := by decide +kernel
theorem d_Mod_lowest_20 : decode b_Mod_lowest 20 = .ok (.aload_n 0, 1) := by decide +kernel
theorem d_Mod_lowest_21 : decode b_Mod_lowest 21 = .ok (.getfield 8, 3) := by decide +kernel
theorem d_Mod_lowest_24 : decode b_Mod_lowest 24 = .ok (.sipush 4096, 3) := by decide +kernel
theorem d_Mod_lowest_27 : decode b_Mod_lowest 27 = .ok (.iload_n 1, 1) := by decide +kernel
theorem d_Mod_lowest_28 : decode b_Mod_lowest 28 = .ok (.imul, 1) := by decide +kernel
theorem d_Mod_lowest_29 : decode b_Mod_lowest 29 = .ok (.iload_n 2, 1) := by decide +kernel
theorem d_Mod_lowest_30 : decode b_Mod_lowest 30 = .ok (.iconst 4, 1) := by decide +kernel
theorem d_Mod_lowest_31 : decode b_Mod_lowest 31 = .ok (.ishr, 1) := by decide +kernel
theorem d_Mod_lowest_32 : decode b_Mod_lowest 32 = .ok (.iadd, 1) := by decide +kernel
theorem d_Mod_lowest_33 : decode b_Mod_lowest 33 = .ok (.iaload, 1) := by decide +kernel
theorem d_Mod_lowest_34 : decode b_Mod_lowest 34 = .ok (.iload_n 2, 1) := by decide +kernel
theorem d_Mod_lowest_35 : decode b_Mod_lowest 35 = .ok (.bipush 15, 2) := by decide +kernel
theorem d_Mod_lowest_37 : decode b_Mod_lowest 37 = .ok (.iand, 1) := by decide +kernel
theorem d_Mod_lowest_38 : decode b_Mod_lowest 38 = .ok (.ishr, 1) := by decide +kernel
theorem d_Mod_lowest_39 : decode b_Mod_lowest 39 = .ok (.iconst 1, 1) := by decide +kernel
theorem d_Mod_lowest_40 : decode b_Mod_lowest 40 = .ok (.iand, 1) := by decide +kernel
theorem d_Mod_lowest_41 : decode b_Mod_lowest 41 = .ok (.ifCond .ne 9, 3) := by decide +kernel
theorem d_Mod_lowest_44 : decode b_Mod_lowest 44 = .ok (.iinc 2 1, 3) := by decide +kernel
theorem d_Mod_lowest_47 : decode b_Mod_lowest 47 = .ok (.goto (-27), 3) := by decide +kernel
theorem d_Mod_lowest_50 : decode b_Mod_lowest 50 = .ok (.iload_n 2, 1) := by decide +kernel
theorem d_Mod_lowest_51 : decode b_Mod_lowest 51 = .ok (.ireturn, 1) := by decide +kernel
theorem d_Mod_moved_0 : decode b_Mod_moved 0 = .ok (.aload_n 0, 1) := by decide +kernel
theorem d_Mod_moved_1 : decode b_Mod_moved 1 = .ok (.iload_n 2, 1) := by decide +kernel
theorem d_Mod_moved_2 : decode b_Mod_moved 2 = .ok (.invokevirtual 45, 3) := by decide +kernel
theorem d_Mod_moved_5 : decode b_Mod_moved 5 = .ok (.aload_n 0, 1) := by decide +kernel
theorem d_Mod_moved_6 : decode b_Mod_moved 6 = .ok (.invokevirtual 49, 3) := by decide +kernel
theorem d_Mod_moved_9 : decode b_Mod_moved 9 = .ok (.ldc2_w 79, 3) := by decide +kernel
theorem d_Mod_moved_12 : decode b_Mod_moved 12 = .ok (.aload_n 0, 1) := by decide +kernel
theorem d_Mod_moved_13 : decode b_Mod_moved 13 = .ok (.getfield 26, 3) := by decide +kernel
theorem d_Mod_moved_16 : decode b_Mod_moved 16 = .ok (.i2l, 1) := by decide +kernel
theorem d_Mod_moved_17 : decode b_Mod_moved 17 = .ok (.lmul, 1) := by decide +kernel
theorem d_Mod_moved_18 : decode b_Mod_moved 18 = .ok (.lstore 9, 2) := by decide +kernel
theorem d_Mod_moved_20 : decode b_Mod_moved 20 = .ok (.lload_n 3, 1) := by decide +kernel
theorem d_Mod_moved_21 : decode b_Mod_moved 21 = .ok (.lload 5, 2) := by decide +kernel
theorem d_Mod_moved_23 : decode b_Mod_moved 23 = .ok (.ladd, 1) := by decide +kernel
theorem d_Mod_moved_24 : decode b_Mod_moved 24 = .ok (.lload 9, 2) := by decide +kernel
theorem d_Mod_moved_26 : decode b_Mod_moved 26 = .ok (.lcmp, 1) := by decide +kernel
theorem d_Mod_moved_27 : decode b_Mod_moved 27 = .ok (.ifCond .ge 10, 3) := by decide +kernel
theorem d_Mod_moved_30 : decode b_Mod_moved 30 = .ok (.lload_n 3, 1) := by decide +kernel
theorem d_Mod_moved_31 : decode b_Mod_moved 31 = .ok (.lload 5, 2) := by decide +kernel
theorem d_Mod_moved_33 : decode b_Mod_moved 33 = .ok (.ladd, 1) := by decide +kernel
theorem d_Mod_moved_34 : decode b_Mod_moved 34 = .ok (.goto 5, 3) := by decide +kernel
theorem d_Mod_moved_37 : decode b_Mod_moved 37 = .ok (.lload 9, 2) := by decide +kernel
theorem d_Mod_moved_39 : decode b_Mod_moved 39 = .ok (.lstore 11, 2) := by decide +kernel
theorem d_Mod_moved_41 : decode b_Mod_moved 41 = .ok (.lload_n 3, 1) := by decide +kernel
theorem d_Mod_moved_42 : decode b_Mod_moved 42 = .ok (.lstore 13, 2) := by decide +kernel
theorem d_Mod_moved_44 : decode b_Mod_moved 44 = .ok (.lload 13, 2) := by decide +kernel
theorem d_Mod_moved_46 : decode b_Mod_moved 46 = .ok (.lload 11, 2) := by decide +kernel
theorem d_Mod_moved_48 : decode b_Mod_moved 48 = .ok (.lcmp, 1) := by decide +kernel
theorem d_Mod_moved_49 : decode b_Mod_moved 49 = .ok (.ifCond .ge 57, 3) := by decide +kernel
theorem d_Mod_moved_52 : decode b_Mod_moved 52 = .ok (.lload 13, 2) := by decide +kernel
theorem d_Mod_moved_54 : decode b_Mod_moved 54 = .ok (.lload_n 3, 1) := by decide +kernel
theorem d_Mod_moved_55 : decode b_Mod_moved 55 = .ok (.lsub, 1) := by decide +kernel
theorem d_Mod_moved_56 : decode b_Mod_moved 56 = .ok (.lload 7, 2) := by decide +kernel
theorem d_Mod_moved_58 : decode b_Mod_moved 58 = .ok (.ladd, 1) := by decide +kernel
theorem d_Mod_moved_59 : decode b_Mod_moved 59 = .ok (.l2i, 1) := by decide +kernel
theorem d_Mod_moved_60 : decode b_Mod_moved 60 = .ok (.istore 15, 2) := by decide +kernel
theorem d_Mod_moved_62 : decode b_Mod_moved 62 = .ok (.aload_n 0, 1) := by decide +kernel
theorem d_Mod_moved_63 : decode b_Mod_moved 63 = .ok (.getfield 23, 3) := by decide +kernel
theorem d_Mod_moved_66 : decode b_Mod_moved 66 = .ok (.iload 15, 2) := by decide +kernel
theorem d_Mod_moved_68 : decode b_Mod_moved 68 = .ok (.iconst 4, 1) := by decide +kernel
theorem d_Mod_moved_69 : decode b_Mod_moved 69 = .ok (.ishr, 1) := by decide +kernel
theorem d_Mod_moved_70 : decode b_Mod_moved 70 = .ok (.aload_n 0, 1) := by decide +kernel
theorem d_Mod_moved_71 : decode b_Mod_moved 71 = .ok (.getfield 23, 3) := by decide +kernel
theorem d_Mod_moved_74 : decode b_Mod_moved 74 = .ok (.iload 15, 2) := by decide +kernel
theorem d_Mod_moved_76 : decode b_Mod_moved 76 = .ok (.iconst 4, 1) := by decide +kernel
theorem d_Mod_moved_77 : decode b_Mod_moved 77 = .ok (.ishr, 1) := by decide +kernel
theorem d_Mod_moved_78 : decode b_Mod_moved 78 = .ok (.iaload, 1) := by decide +kernel
theorem d_Mod_moved_79 : decode b_Mod_moved 79 = .ok (.aload_n 0, 1) := by decide +kernel
theorem d_Mod_moved_80 : decode b_Mod_moved 80 = .ok (.getfield 17, 3) := by decide +kernel
theorem d_Mod_moved_83 : decode b_Mod_moved 83 = .ok (.lload 13, 2) := by decide +kernel
theorem d_Mod_moved_85 : decode b_Mod_moved 85 = .ok (.l2i, 1) := by decide +kernel
theorem d_Mod_moved_86 : decode b_Mod_moved 86 = .ok (.invokestatic 68, 3) := by decide +kernel
theorem d_Mod_moved_89 : decode b_Mod_moved 89 = .ok (.iload 15, 2) := by decide +kernel
theorem d_Mod_moved_91 : decode b_Mod_moved 91 = .ok (.bipush 15, 2) := by decide +kernel
theorem d_Mod_moved_93 : decode b_Mod_moved 93 = .ok (.iand, 1) := by decide +kernel
theorem d_Mod_moved_94 : decode b_Mod_moved 94 = .ok (.ishl, 1) := by decide +kernel
theorem d_Mod_moved_95 : decode b_Mod_moved 95 = .ok (.ior, 1) := by decide +kernel
theorem d_Mod_moved_96 : decode b_Mod_moved 96 = .ok (.iastore, 1) := by decide +kernel
theorem d_Mod_moved_97 : decode b_Mod_moved 97 = .ok (.lload 13, 2) := by decide +kernel
theorem d_Mod_moved_99 : decode b_Mod_moved 99 = .ok (.lconst 1, 1) := by decide +kernel
theorem d_Mod_moved_100 : decode b_Mod_moved 100 = .ok (.ladd, 1) := by decide +kernel
theorem d_Mod_moved_101 : decode b_Mod_moved 101 = .ok (.lstore 13, 2) := by decide +kernel
theorem d_Mod_moved_103 : decode b_Mod_moved 103 = .ok (.goto (-59), 3) := by decide +kernel
theorem d_Mod_moved_106 : decode b_Mod_moved 106 = .ok (.aload_n 0, 1) := by decide +kernel
theorem d_Mod_moved_107 : decode b_Mod_moved 107 = .ok (.iload_n 1, 1) := by decide +kernel
theorem d_Mod_moved_108 : decode b_Mod_moved 108 = .ok (.aload_n 0, 1) := by decide +kernel
theorem d_Mod_moved_109 : decode b_Mod_moved 109 = .ok (.getfield 23, 3) := by decide +kernel
theorem d_Mod_moved_112 : decode b_Mod_moved 112 = .ok (.sipush 8200, 3) := by decide +kernel
theorem d_Mod_moved_115 : decode b_Mod_moved 115 = .ok (.invokevirtual 54, 3) := by decide +kernel
theorem d_Mod_moved_118 : decode b_Mod_moved 118 = .ok (.ireturn, 1) := by decide +kernel
theorem d_Mod_ones_0 : decode b_Mod_ones 0 = .ok (.iload_n 1, 1) := by decide +kernel
theorem d_Mod_ones_1 : decode b_Mod_ones 1 = .ok (.invokestatic 41, 3) := by decide +kernel
theorem d_Mod_ones_4 : decode b_Mod_ones 4 = .ok (.ifCond .ne 5, 3) := by decide +kernel
theorem d_Mod_ones_7 : decode b_Mod_ones 7 = .ok (.iconst (-1), 1) := by decide +kernel
theorem d_Mod_ones_8 : decode b_Mod_ones 8 = .ok (.ireturn, 1) := by decide +kernel
theorem d_Mod_ones_9 : decode b_Mod_ones 9 = .ok (.iconst 0, 1) := by decide +kernel
theorem d_Mod_ones_10 : decode b_Mod_ones 10 = .ok (.istore_n 2, 1) := by decide +kernel
theorem d_Mod_ones_11 : decode b_Mod_ones 11 = .ok (.iconst 0, 1) := by decide +kernel
theorem d_Mod_ones_12 : decode b_Mod_ones 12 = .ok (.istore_n 3, 1) := by decide +kernel
theorem d_Mod_ones_13 : decode b_Mod_ones 13 = .ok (.iload_n 3, 1) := by decide +kernel
theorem d_Mod_ones_14 : decode b_Mod_ones 14 = .ok (.aload_n 0, 1) := by decide +kernel
theorem d_Mod_ones_15 : decode b_Mod_ones 15 = .ok (.getfield 14, 3) := by decide +kernel
theorem d_Mod_ones_18 : decode b_Mod_ones 18 = .ok (.iload_n 1, 1) := by decide +kernel
theorem d_Mod_ones_19 : decode b_Mod_ones 19 = .ok (.iaload, 1) := by decide +kernel
theorem d_Mod_ones_20 : decode b_Mod_ones 20 = .ok (.if_icmp .ge 44, 3) := by decide +kernel
theorem d_Mod_ones_23 : decode b_Mod_ones 23 = .ok (.aload_n 0, 1) := by decide +kernel
theorem d_Mod_ones_24 : decode b_Mod_ones 24 = .ok (.getfield 8, 3) := by decide +kernel
theorem d_Mod_ones_27 : decode b_Mod_ones 27 = .ok (.sipush 4096, 3) := by decide +kernel
theorem d_Mod_ones_30 : decode b_Mod_ones 30 = .ok (.iload_n 1, 1) := by decide +kernel
theorem d_Mod_ones_31 : decode b_Mod_ones 31 = .ok (.imul, 1) := by decide +kernel
theorem d_Mod_ones_32 : decode b_Mod_ones 32 = .ok (.iload_n 3, 1) := by decide +kernel
theorem d_Mod_ones_33 : decode b_Mod_ones 33 = .ok (.iadd, 1) := by decide +kernel
theorem d_Mod_ones_34 : decode b_Mod_ones 34 = .ok (.iaload, 1) := by decide +kernel
theorem d_Mod_ones_35 : decode b_Mod_ones 35 = .ok (.istore 4, 2) := by decide +kernel
theorem d_Mod_ones_37 : decode b_Mod_ones 37 = .ok (.iload 4, 2) := by decide +kernel
theorem d_Mod_ones_39 : decode b_Mod_ones 39 = .ok (.ifCond .le 19, 3) := by decide +kernel
theorem d_Mod_ones_42 : decode b_Mod_ones 42 = .ok (.iload_n 2, 1) := by decide +kernel
theorem d_Mod_ones_43 : decode b_Mod_ones 43 = .ok (.iload 4, 2) := by decide +kernel
theorem d_Mod_ones_45 : decode b_Mod_ones 45 = .ok (.iconst 1, 1) := by decide +kernel
theorem d_Mod_ones_46 : decode b_Mod_ones 46 = .ok (.iand, 1) := by decide +kernel
theorem d_Mod_ones_47 : decode b_Mod_ones 47 = .ok (.iadd, 1) := by decide +kernel
theorem d_Mod_ones_48 : decode b_Mod_ones 48 = .ok (.istore_n 2, 1) := by decide +kernel
theorem d_Mod_ones_49 : decode b_Mod_ones 49 = .ok (.iload 4, 2) := by decide +kernel
theorem d_Mod_ones_51 : decode b_Mod_ones 51 = .ok (.iconst 1, 1) := by decide +kernel
theorem d_Mod_ones_52 : decode b_Mod_ones 52 = .ok (.ishr, 1) := by decide +kernel
theorem d_Mod_ones_53 : decode b_Mod_ones 53 = .ok (.istore 4, 2) := by decide +kernel
theorem d_Mod_ones_55 : decode b_Mod_ones 55 = .ok (.goto (-18), 3) := by decide +kernel
theorem d_Mod_ones_58 : decode b_Mod_ones 58 = .ok (.iinc 3 1, 3) := by decide +kernel
theorem d_Mod_ones_61 : decode b_Mod_ones 61 = .ok (.goto (-48), 3) := by decide +kernel
theorem d_Mod_ones_64 : decode b_Mod_ones 64 = .ok (.iload_n 2, 1) := by decide +kernel
theorem d_Mod_ones_65 : decode b_Mod_ones 65 = .ok (.ireturn, 1) := by decide +kernel
theorem d_Mod_part_0 : decode b_Mod_part 0 = .ok (.iload_n 1, 1) := by decide +kernel
theorem d_Mod_part_1 : decode b_Mod_part 1 = .ok (.invokestatic 41, 3) := by decide +kernel
theorem d_Mod_part_4 : decode b_Mod_part 4 = .ok (.ifCond .eq 19, 3) := by decide +kernel
theorem d_Mod_part_7 : decode b_Mod_part 7 = .ok (.iload_n 2, 1) := by decide +kernel
theorem d_Mod_part_8 : decode b_Mod_part 8 = .ok (.invokestatic 41, 3) := by decide +kernel
theorem d_Mod_part_11 : decode b_Mod_part 11 = .ok (.ifCond .eq 12, 3) := by decide +kernel
theorem d_Mod_part_14 : decode b_Mod_part 14 = .ok (.iload_n 3, 1) := by decide +kernel
theorem d_Mod_part_15 : decode b_Mod_part 15 = .ok (.ifCond .lt 8, 3) := by decide +kernel
theorem d_Mod_part_18 : decode b_Mod_part 18 = .ok (.iload 4, 2) := by decide +kernel
theorem d_Mod_part_20 : decode b_Mod_part 20 = .ok (.ifCond .ge 5, 3) := by decide +kernel
theorem d_Mod_part_23 : decode b_Mod_part 23 = .ok (.iconst 0, 1) := by decide +kernel
theorem d_Mod_part_24 : decode b_Mod_part 24 = .ok (.ireturn, 1) := by decide +kernel
theorem d_Mod_part_25 : decode b_Mod_part 25 = .ok (.aload_n 0, 1) := by decide +kernel
theorem d_Mod_part_26 : decode b_Mod_part 26 = .ok (.iload_n 1, 1) := by decide +kernel
theorem d_Mod_part_27 : decode b_Mod_part 27 = .ok (.iload_n 2, 1) := by decide +kernel
theorem d_Mod_part_28 : decode b_Mod_part 28 = .ok (.iload_n 3, 1) := by decide +kernel
theorem d_Mod_part_29 : decode b_Mod_part 29 = .ok (.i2l, 1) := by decide +kernel
theorem d_Mod_part_30 : decode b_Mod_part 30 = .ok (.iload 4, 2) := by decide +kernel
theorem d_Mod_part_32 : decode b_Mod_part 32 = .ok (.i2l, 1) := by decide +kernel
theorem d_Mod_part_33 : decode b_Mod_part 33 = .ok (.lconst 0, 1) := by decide +kernel
theorem d_Mod_part_34 : decode b_Mod_part 34 = .ok (.invokevirtual 83, 3) := by decide +kernel
theorem d_Mod_part_37 : decode b_Mod_part 37 = .ok (.ireturn, 1) := by decide +kernel
theorem d_Mod_push_0 : decode b_Mod_push 0 = .ok (.iload_n 1, 1) := by decide +kernel
theorem d_Mod_push_1 : decode b_Mod_push 1 = .ok (.invokestatic 41, 3) := by decide +kernel
theorem d_Mod_push_4 : decode b_Mod_push 4 = .ok (.ifCond .ne 5, 3) := by decide +kernel
theorem d_Mod_push_7 : decode b_Mod_push 7 = .ok (.iconst 0, 1) := by decide +kernel
theorem d_Mod_push_8 : decode b_Mod_push 8 = .ok (.ireturn, 1) := by decide +kernel
theorem d_Mod_push_9 : decode b_Mod_push 9 = .ok (.aload_n 0, 1) := by decide +kernel
theorem d_Mod_push_10 : decode b_Mod_push 10 = .ok (.iload_n 1, 1) := by decide +kernel
theorem d_Mod_push_11 : decode b_Mod_push 11 = .ok (.invokevirtual 45, 3) := by decide +kernel
theorem d_Mod_push_14 : decode b_Mod_push 14 = .ok (.aload_n 0, 1) := by decide +kernel
theorem d_Mod_push_15 : decode b_Mod_push 15 = .ok (.invokevirtual 49, 3) := by decide +kernel
theorem d_Mod_push_18 : decode b_Mod_push 18 = .ok (.iconst 0, 1) := by decide +kernel
theorem d_Mod_push_19 : decode b_Mod_push 19 = .ok (.istore 4, 2) := by decide +kernel
theorem d_Mod_push_21 : decode b_Mod_push 21 = .ok (.iload 4, 2) := by decide +kernel
theorem d_Mod_push_23 : decode b_Mod_push 23 = .ok (.iconst 4, 1) := by decide +kernel
theorem d_Mod_push_24 : decode b_Mod_push 24 = .ok (.if_icmp .ge 28, 3) := by decide +kernel
theorem d_Mod_push_27 : decode b_Mod_push 27 = .ok (.aload_n 0, 1) := by decide +kernel
theorem d_Mod_push_28 : decode b_Mod_push 28 = .ok (.getfield 23, 3) := by decide +kernel
theorem d_Mod_push_31 : decode b_Mod_push 31 = .ok (.iload 4, 2) := by decide +kernel
theorem d_Mod_push_33 : decode b_Mod_push 33 = .ok (.lload_n 2, 1) := by decide +kernel
theorem d_Mod_push_34 : decode b_Mod_push 34 = .ok (.bipush 16, 2) := by decide +kernel
theorem d_Mod_push_36 : decode b_Mod_push 36 = .ok (.iload 4, 2) := by decide +kernel
theorem d_Mod_push_38 : decode b_Mod_push 38 = .ok (.imul, 1) := by decide +kernel
theorem d_Mod_push_39 : decode b_Mod_push 39 = .ok (.lshr, 1) := by decide +kernel
theorem d_Mod_push_40 : decode b_Mod_push 40 = .ok (.ldc2_w 52, 3) := by decide +kernel
theorem d_Mod_push_43 : decode b_Mod_push 43 = .ok (.land, 1) := by decide +kernel
theorem d_Mod_push_44 : decode b_Mod_push 44 = .ok (.l2i, 1) := by decide +kernel
theorem d_Mod_push_45 : decode b_Mod_push 45 = .ok (.iastore, 1) := by decide +kernel
theorem d_Mod_push_46 : decode b_Mod_push 46 = .ok (.iinc 4 1, 3) := by decide +kernel
theorem d_Mod_push_49 : decode b_Mod_push 49 = .ok (.goto (-28), 3) := by decide +kernel
theorem d_Mod_push_52 : decode b_Mod_push 52 = .ok (.iconst 0, 1) := by decide +kernel
theorem d_Mod_push_53 : decode b_Mod_push 53 = .ok (.istore 4, 2) := by decide +kernel
theorem d_Mod_push_55 : decode b_Mod_push 55 = .ok (.iload 4, 2) := by decide +kernel
theorem d_Mod_push_57 : decode b_Mod_push 57 = .ok (.aload_n 0, 1) := by decide +kernel
theorem d_Mod_push_58 : decode b_Mod_push 58 = .ok (.getfield 26, 3) := by decide +kernel
theorem d_Mod_push_61 : decode b_Mod_push 61 = .ok (.if_icmp .ge 25, 3) := by decide +kernel
theorem d_Mod_push_64 : decode b_Mod_push 64 = .ok (.aload_n 0, 1) := by decide +kernel
theorem d_Mod_push_65 : decode b_Mod_push 65 = .ok (.getfield 23, 3) := by decide +kernel
theorem d_Mod_push_68 : decode b_Mod_push 68 = .ok (.iload 4, 2) := by decide +kernel
theorem d_Mod_push_70 : decode b_Mod_push 70 = .ok (.iconst 4, 1) := by decide +kernel
theorem d_Mod_push_71 : decode b_Mod_push 71 = .ok (.iadd, 1) := by decide +kernel
theorem d_Mod_push_72 : decode b_Mod_push 72 = .ok (.aload_n 0, 1) := by decide +kernel
theorem d_Mod_push_73 : decode b_Mod_push 73 = .ok (.getfield 17, 3) := by decide +kernel
theorem d_Mod_push_76 : decode b_Mod_push 76 = .ok (.iload 4, 2) := by decide +kernel
theorem d_Mod_push_78 : decode b_Mod_push 78 = .ok (.iaload, 1) := by decide +kernel
theorem d_Mod_push_79 : decode b_Mod_push 79 = .ok (.iastore, 1) := by decide +kernel
theorem d_Mod_push_80 : decode b_Mod_push 80 = .ok (.iinc 4 1, 3) := by decide +kernel
theorem d_Mod_push_83 : decode b_Mod_push 83 = .ok (.goto (-28), 3) := by decide +kernel
theorem d_Mod_push_86 : decode b_Mod_push 86 = .ok (.aload_n 0, 1) := by decide +kernel
theorem d_Mod_push_87 : decode b_Mod_push 87 = .ok (.iload_n 1, 1) := by decide +kernel
theorem d_Mod_push_88 : decode b_Mod_push 88 = .ok (.aload_n 0, 1) := by decide +kernel
theorem d_Mod_push_89 : decode b_Mod_push 89 = .ok (.getfield 23, 3) := by decide +kernel
theorem d_Mod_push_92 : decode b_Mod_push 92 = .ok (.aload_n 0, 1) := by decide +kernel
theorem d_Mod_push_93 : decode b_Mod_push 93 = .ok (.getfield 26, 3) := by decide +kernel
theorem d_Mod_push_96 : decode b_Mod_push 96 = .ok (.iconst 4, 1) := by decide +kernel
theorem d_Mod_push_97 : decode b_Mod_push 97 = .ok (.iadd, 1) := by decide +kernel
theorem d_Mod_push_98 : decode b_Mod_push 98 = .ok (.invokevirtual 54, 3) := by decide +kernel
theorem d_Mod_push_101 : decode b_Mod_push 101 = .ok (.ireturn, 1) := by decide +kernel
theorem d_Mod_put_0 : decode b_Mod_put 0 = .ok (.aload_n 2, 1) := by decide +kernel
theorem d_Mod_put_1 : decode b_Mod_put 1 = .ok (.iload_n 3, 1) := by decide +kernel
theorem d_Mod_put_2 : decode b_Mod_put 2 = .ok (.invokestatic 36, 3) := by decide +kernel
theorem d_Mod_put_5 : decode b_Mod_put 5 = .ok (.istore 4, 2) := by decide +kernel
theorem d_Mod_put_7 : decode b_Mod_put 7 = .ok (.iload 4, 2) := by decide +kernel
theorem d_Mod_put_9 : decode b_Mod_put 9 = .ok (.sipush 4096, 3) := by decide +kernel
theorem d_Mod_put_12 : decode b_Mod_put 12 = .ok (.if_icmp .le 5, 3) := by decide +kernel
theorem d_Mod_put_15 : decode b_Mod_put 15 = .ok (.iconst 0, 1) := by decide +kernel
theorem d_Mod_put_16 : decode b_Mod_put 16 = .ok (.ireturn, 1) := by decide +kernel
theorem d_Mod_put_17 : decode b_Mod_put 17 = .ok (.iconst 0, 1) := by decide +kernel
theorem d_Mod_put_18 : decode b_Mod_put 18 = .ok (.istore 5, 2) := by decide +kernel
theorem d_Mod_put_20 : decode b_Mod_put 20 = .ok (.iload 5, 2) := by decide +kernel
theorem d_Mod_put_22 : decode b_Mod_put 22 = .ok (.sipush 4096, 3) := by decide +kernel
theorem d_Mod_put_25 : decode b_Mod_put 25 = .ok (.if_icmp .ge 37, 3) := by decide +kernel
theorem d_Mod_put_28 : decode b_Mod_put 28 = .ok (.aload_n 0, 1) := by decide +kernel
theorem d_Mod_put_29 : decode b_Mod_put 29 = .ok (.getfield 8, 3) := by decide +kernel
theorem d_Mod_put_32 : decode b_Mod_put 32 = .ok (.sipush 4096, 3) := by decide +kernel
theorem d_Mod_put_35 : decode b_Mod_put 35 = .ok (.iload_n 1, 1) := by decide +kernel
theorem d_Mod_put_36 : decode b_Mod_put 36 = .ok (.imul, 1) := by decide +kernel
theorem d_Mod_put_37 : decode b_Mod_put 37 = .ok (.iload 5, 2) := by decide +kernel
theorem d_Mod_put_39 : decode b_Mod_put 39 = .ok (.iadd, 1) := by decide +kernel
theorem d_Mod_put_40 : decode b_Mod_put 40 = .ok (.iload 5, 2) := by decide +kernel
theorem d_Mod_put_42 : decode b_Mod_put 42 = .ok (.iload 4, 2) := by decide +kernel
theorem d_Mod_put_44 : decode b_Mod_put 44 = .ok (.if_icmp .ge 10, 3) := by decide +kernel
theorem d_Mod_put_47 : decode b_Mod_put 47 = .ok (.aload_n 2, 1) := by decide +kernel
theorem d_Mod_put_48 : decode b_Mod_put 48 = .ok (.iload 5, 2) := by decide +kernel
theorem d_Mod_put_50 : decode b_Mod_put 50 = .ok (.iaload, 1) := by decide +kernel
theorem d_Mod_put_51 : decode b_Mod_put 51 = .ok (.goto 4, 3) := by decide +kernel
theorem d_Mod_put_54 : decode b_Mod_put 54 = .ok (.iconst 0, 1) := by decide +kernel
theorem d_Mod_put_55 : decode b_Mod_put 55 = .ok (.iastore, 1) := by decide +kernel
theorem d_Mod_put_56 : decode b_Mod_put 56 = .ok (.iinc 5 1, 3) := by decide +kernel
theorem d_Mod_put_59 : decode b_Mod_put 59 = .ok (.goto (-39), 3) := by decide +kernel
theorem d_Mod_put_62 : decode b_Mod_put 62 = .ok (.aload_n 0, 1) := by decide +kernel
theorem d_Mod_put_63 : decode b_Mod_put 63 = .ok (.getfield 14, 3) := by decide +kernel
theorem d_Mod_put_66 : decode b_Mod_put 66 = .ok (.iload_n 1, 1) := by decide +kernel
theorem d_Mod_put_67 : decode b_Mod_put 67 = .ok (.iload 4, 2) := by decide +kernel
theorem d_Mod_put_69 : decode b_Mod_put 69 = .ok (.iastore, 1) := by decide +kernel
theorem d_Mod_put_70 : decode b_Mod_put 70 = .ok (.iconst 1, 1) := by decide +kernel
theorem d_Mod_put_71 : decode b_Mod_put 71 = .ok (.ireturn, 1) := by decide +kernel
theorem d_Mod_rest_0 : decode b_Mod_rest 0 = .ok (.iload_n 1, 1) := by decide +kernel
theorem d_Mod_rest_1 : decode b_Mod_rest 1 = .ok (.invokestatic 41, 3) := by decide +kernel
theorem d_Mod_rest_4 : decode b_Mod_rest 4 = .ok (.ifCond .eq 8, 3) := by decide +kernel
theorem d_Mod_rest_7 : decode b_Mod_rest 7 = .ok (.iload_n 2, 1) := by decide +kernel
theorem d_Mod_rest_8 : decode b_Mod_rest 8 = .ok (.iconst 1, 1) := by decide +kernel
theorem d_Mod_rest_9 : decode b_Mod_rest 9 = .ok (.if_icmp .ge 5, 3) := by decide +kernel
theorem d_Mod_rest_12 : decode b_Mod_rest 12 = .ok (.iconst (-1), 1) := by decide +kernel
theorem d_Mod_rest_13 : decode b_Mod_rest 13 = .ok (.ireturn, 1) := by decide +kernel
theorem d_Mod_rest_14 : decode b_Mod_rest 14 = .ok (.lconst 0, 1) := by decide +kernel
theorem d_Mod_rest_15 : decode b_Mod_rest 15 = .ok (.lstore_n 3, 1) := by decide +kernel
theorem d_Mod_rest_16 : decode b_Mod_rest 16 = .ok (.aload_n 0, 1) := by decide +kernel
theorem d_Mod_rest_17 : decode b_Mod_rest 17 = .ok (.getfield 14, 3) := by decide +kernel
theorem d_Mod_rest_20 : decode b_Mod_rest 20 = .ok (.iload_n 1, 1) := by decide +kernel
theorem d_Mod_rest_21 : decode b_Mod_rest 21 = .ok (.iaload, 1) := by decide +kernel
theorem d_Mod_rest_22 : decode b_Mod_rest 22 = .ok (.iconst 1, 1) := by decide +kernel
theorem d_Mod_rest_23 : decode b_Mod_rest 23 = .ok (.isub, 1) := by decide +kernel
theorem d_Mod_rest_24 : decode b_Mod_rest 24 = .ok (.istore 5, 2) := by decide +kernel
theorem d_Mod_rest_26 : decode b_Mod_rest 26 = .ok (.iload 5, 2) := by decide +kernel
theorem d_Mod_rest_28 : decode b_Mod_rest 28 = .ok (.ifCond .lt 33, 3) := by decide +kernel
theorem d_Mod_rest_31 : decode b_Mod_rest 31 = .ok (.lload_n 3, 1) := by decide +kernel
theorem d_Mod_rest_32 : decode b_Mod_rest 32 = .ok (.ldc2_w 81, 3) := by decide +kernel
theorem d_Mod_rest_35 : decode b_Mod_rest 35 = .ok (.lmul, 1) := by decide +kernel
theorem d_Mod_rest_36 : decode b_Mod_rest 36 = .ok (.aload_n 0, 1) := by decide +kernel
theorem d_Mod_rest_37 : decode b_Mod_rest 37 = .ok (.getfield 8, 3) := by decide +kernel
theorem d_Mod_rest_40 : decode b_Mod_rest 40 = .ok (.sipush 4096, 3) := by decide +kernel
theorem d_Mod_rest_43 : decode b_Mod_rest 43 = .ok (.iload_n 1, 1) := by decide +kernel
theorem d_Mod_rest_44 : decode b_Mod_rest 44 = .ok (.imul, 1) := by decide +kernel
theorem d_Mod_rest_45 : decode b_Mod_rest 45 = .ok (.iload 5, 2) := by decide +kernel
theorem d_Mod_rest_47 : decode b_Mod_rest 47 = .ok (.iadd, 1) := by decide +kernel
theorem d_Mod_rest_48 : decode b_Mod_rest 48 = .ok (.iaload, 1) := by decide +kernel
theorem d_Mod_rest_49 : decode b_Mod_rest 49 = .ok (.i2l, 1) := by decide +kernel
theorem d_Mod_rest_50 : decode b_Mod_rest 50 = .ok (.ladd, 1) := by decide +kernel
theorem d_Mod_rest_51 : decode b_Mod_rest 51 = .ok (.iload_n 2, 1) := by decide +kernel
theorem d_Mod_rest_52 : decode b_Mod_rest 52 = .ok (.i2l, 1) := by decide +kernel
theorem d_Mod_rest_53 : decode b_Mod_rest 53 = .ok (.lrem, 1) := by decide +kernel
theorem d_Mod_rest_54 : decode b_Mod_rest 54 = .ok (.lstore_n 3, 1) := by decide +kernel
theorem d_Mod_rest_55 : decode b_Mod_rest 55 = .ok (.iinc 5 (-1), 3) := by decide +kernel
theorem d_Mod_rest_58 : decode b_Mod_rest 58 = .ok (.goto (-32), 3) := by decide +kernel
theorem d_Mod_rest_61 : decode b_Mod_rest 61 = .ok (.lload_n 3, 1) := by decide +kernel
theorem d_Mod_rest_62 : decode b_Mod_rest 62 = .ok (.l2i, 1) := by decide +kernel
theorem d_Mod_rest_63 : decode b_Mod_rest 63 = .ok (.ireturn, 1) := by decide +kernel
theorem d_Mod_root_0 : decode b_Mod_root 0 = .ok (.iload_n 1, 1) := by decide +kernel
theorem d_Mod_root_1 : decode b_Mod_root 1 = .ok (.invokestatic 41, 3) := by decide +kernel
theorem d_Mod_root_4 : decode b_Mod_root 4 = .ok (.ifCond .eq 22, 3) := by decide +kernel
theorem d_Mod_root_7 : decode b_Mod_root 7 = .ok (.iload_n 2, 1) := by decide +kernel
theorem d_Mod_root_8 : decode b_Mod_root 8 = .ok (.invokestatic 41, 3) := by decide +kernel
theorem d_Mod_root_11 : decode b_Mod_root 11 = .ok (.ifCond .eq 15, 3) := by decide +kernel
theorem d_Mod_root_14 : decode b_Mod_root 14 = .ok (.iload_n 3, 1) := by decide +kernel
theorem d_Mod_root_15 : decode b_Mod_root 15 = .ok (.invokestatic 41, 3) := by decide +kernel
theorem d_Mod_root_18 : decode b_Mod_root 18 = .ok (.ifCond .eq 8, 3) := by decide +kernel
theorem d_Mod_root_21 : decode b_Mod_root 21 = .ok (.iload_n 1, 1) := by decide +kernel
theorem d_Mod_root_22 : decode b_Mod_root 22 = .ok (.iload_n 2, 1) := by decide +kernel
theorem d_Mod_root_23 : decode b_Mod_root 23 = .ok (.if_icmp .ne 5, 3) := by decide +kernel
theorem d_Mod_root_26 : decode b_Mod_root 26 = .ok (.iconst 0, 1) := by decide +kernel
theorem d_Mod_root_27 : decode b_Mod_root 27 = .ok (.ireturn, 1) := by decide +kernel
theorem d_Mod_root_28 : decode b_Mod_root 28 = .ok (.aload_n 0, 1) := by decide +kernel
theorem d_Mod_root_29 : decode b_Mod_root 29 = .ok (.iload_n 3, 1) := by decide +kernel
theorem d_Mod_root_30 : decode b_Mod_root 30 = .ok (.invokevirtual 45, 3) := by decide +kernel
theorem d_Mod_root_33 : decode b_Mod_root 33 = .ok (.aload_n 0, 1) := by decide +kernel
theorem d_Mod_root_34 : decode b_Mod_root 34 = .ok (.invokevirtual 49, 3) := by decide +kernel
theorem d_Mod_root_37 : decode b_Mod_root 37 = .ok (.iconst 0, 1) := by decide +kernel
theorem d_Mod_root_38 : decode b_Mod_root 38 = .ok (.istore 4, 2) := by decide +kernel
theorem d_Mod_root_40 : decode b_Mod_root 40 = .ok (.iload 4, 2) := by decide +kernel
theorem d_Mod_root_42 : decode b_Mod_root 42 = .ok (.sipush 8200, 3) := by decide +kernel
theorem d_Mod_root_45 : decode b_Mod_root 45 = .ok (.if_icmp .ge 17, 3) := by decide +kernel
theorem d_Mod_root_48 : decode b_Mod_root 48 = .ok (.aload_n 0, 1) := by decide +kernel
theorem d_Mod_root_49 : decode b_Mod_root 49 = .ok (.getfield 20, 3) := by decide +kernel
theorem d_Mod_root_52 : decode b_Mod_root 52 = .ok (.iload 4, 2) := by decide +kernel
theorem d_Mod_root_54 : decode b_Mod_root 54 = .ok (.iconst 0, 1) := by decide +kernel
theorem d_Mod_root_55 : decode b_Mod_root 55 = .ok (.iastore, 1) := by decide +kernel
theorem d_Mod_root_56 : decode b_Mod_root 56 = .ok (.iinc 4 1, 3) := by decide +kernel
theorem d_Mod_root_59 : decode b_Mod_root 59 = .ok (.goto (-19), 3) := by decide +kernel
theorem d_Mod_root_62 : decode b_Mod_root 62 = .ok (.aload_n 0, 1) := by decide +kernel
theorem d_Mod_root_63 : decode b_Mod_root 63 = .ok (.iconst 0, 1) := by decide +kernel
theorem d_Mod_root_64 : decode b_Mod_root 64 = .ok (.putfield 30, 3) := by decide +kernel
theorem d_Mod_root_67 : decode b_Mod_root 67 = .ok (.bipush 8, 2) := by decide +kernel
theorem d_Mod_root_69 : decode b_Mod_root 69 = .ok (.aload_n 0, 1) := by decide +kernel
theorem d_Mod_root_70 : decode b_Mod_root 70 = .ok (.getfield 26, 3) := by decide +kernel
theorem d_Mod_root_73 : decode b_Mod_root 73 = .ok (.imul, 1) := by decide +kernel
theorem d_Mod_root_74 : decode b_Mod_root 74 = .ok (.iconst 1, 1) := by decide +kernel
theorem d_Mod_root_75 : decode b_Mod_root 75 = .ok (.isub, 1) := by decide +kernel
theorem d_Mod_root_76 : decode b_Mod_root 76 = .ok (.istore 4, 2) := by decide +kernel
theorem d_Mod_root_78 : decode b_Mod_root 78 = .ok (.iload 4, 2) := by decide +kernel
theorem d_Mod_root_80 : decode b_Mod_root 80 = .ok (.ifCond .lt 199, 3) := by decide +kernel
theorem d_Mod_root_83 : decode b_Mod_root 83 = .ok (.aload_n 0, 1) := by decide +kernel
theorem d_Mod_root_84 : decode b_Mod_root 84 = .ok (.aload_n 0, 1) := by decide +kernel
theorem d_Mod_root_85 : decode b_Mod_root 85 = .ok (.getfield 23, 3) := by decide +kernel
theorem d_Mod_root_88 : decode b_Mod_root 88 = .ok (.aload_n 0, 1) := by decide +kernel
theorem d_Mod_root_89 : decode b_Mod_root 89 = .ok (.getfield 33, 3) := by decide +kernel
theorem d_Mod_root_92 : decode b_Mod_root 92 = .ok (.aload_n 0, 1) := by decide +kernel
theorem d_Mod_root_93 : decode b_Mod_root 93 = .ok (.getfield 17, 3) := by decide +kernel
theorem d_Mod_root_96 : decode b_Mod_root 96 = .ok (.iconst 2, 1) := by decide +kernel
theorem d_Mod_root_97 : decode b_Mod_root 97 = .ok (.iload 4, 2) := by decide +kernel
theorem d_Mod_root_99 : decode b_Mod_root 99 = .ok (.imul, 1) := by decide +kernel
theorem d_Mod_root_100 : decode b_Mod_root 100 = .ok (.iconst 1, 1) := by decide +kernel
theorem d_Mod_root_101 : decode b_Mod_root 101 = .ok (.iadd, 1) := by decide +kernel
theorem d_Mod_root_102 : decode b_Mod_root 102 = .ok (.invokestatic 68, 3) := by decide +kernel
theorem d_Mod_root_105 : decode b_Mod_root 105 = .ok (.invokestatic 71, 3) := by decide +kernel
theorem d_Mod_root_108 : decode b_Mod_root 108 = .ok (.putfield 33, 3) := by decide +kernel
theorem d_Mod_root_111 : decode b_Mod_root 111 = .ok (.aload_n 0, 1) := by decide +kernel
theorem d_Mod_root_112 : decode b_Mod_root 112 = .ok (.aload_n 0, 1) := by decide +kernel
theorem d_Mod_root_113 : decode b_Mod_root 113 = .ok (.getfield 23, 3) := by decide +kernel
theorem d_Mod_root_116 : decode b_Mod_root 116 = .ok (.aload_n 0, 1) := by decide +kernel
theorem d_Mod_root_117 : decode b_Mod_root 117 = .ok (.getfield 33, 3) := by decide +kernel
theorem d_Mod_root_120 : decode b_Mod_root 120 = .ok (.aload_n 0, 1) := by decide +kernel
theorem d_Mod_root_121 : decode b_Mod_root 121 = .ok (.getfield 17, 3) := by decide +kernel
theorem d_Mod_root_124 : decode b_Mod_root 124 = .ok (.iconst 2, 1) := by decide +kernel
theorem d_Mod_root_125 : decode b_Mod_root 125 = .ok (.iload 4, 2) := by decide +kernel
theorem d_Mod_root_127 : decode b_Mod_root 127 = .ok (.imul, 1) := by decide +kernel
theorem d_Mod_root_128 : decode b_Mod_root 128 = .ok (.invokestatic 68, 3) := by decide +kernel
theorem d_Mod_root_131 : decode b_Mod_root 131 = .ok (.invokestatic 71, 3) := by decide +kernel
theorem d_Mod_root_134 : decode b_Mod_root 134 = .ok (.putfield 33, 3) := by decide +kernel
theorem d_Mod_root_137 : decode b_Mod_root 137 = .ok (.aload_n 0, 1) := by decide +kernel
theorem d_Mod_root_138 : decode b_Mod_root 138 = .ok (.aload_n 0, 1) := by decide +kernel
theorem d_Mod_root_139 : decode b_Mod_root 139 = .ok (.getfield 20, 3) := by decide +kernel
theorem d_Mod_root_142 : decode b_Mod_root 142 = .ok (.aload_n 0, 1) := by decide +kernel
theorem d_Mod_root_143 : decode b_Mod_root 143 = .ok (.getfield 30, 3) := by decide +kernel
theorem d_Mod_root_146 : decode b_Mod_root 146 = .ok (.iconst 0, 1) := by decide +kernel
theorem d_Mod_root_147 : decode b_Mod_root 147 = .ok (.invokestatic 71, 3) := by decide +kernel
theorem d_Mod_root_150 : decode b_Mod_root 150 = .ok (.putfield 30, 3) := by decide +kernel
theorem d_Mod_root_153 : decode b_Mod_root 153 = .ok (.aload_n 0, 1) := by decide +kernel
theorem d_Mod_root_154 : decode b_Mod_root 154 = .ok (.aload_n 0, 1) := by decide +kernel
theorem d_Mod_root_155 : decode b_Mod_root 155 = .ok (.getfield 20, 3) := by decide +kernel
theorem d_Mod_root_158 : decode b_Mod_root 158 = .ok (.aload_n 0, 1) := by decide +kernel
theorem d_Mod_root_159 : decode b_Mod_root 159 = .ok (.getfield 30, 3) := by decide +kernel
theorem d_Mod_root_162 : decode b_Mod_root 162 = .ok (.iconst 1, 1) := by decide +kernel
theorem d_Mod_root_163 : decode b_Mod_root 163 = .ok (.invokestatic 71, 3) := by decide +kernel
theorem d_Mod_root_166 : decode b_Mod_root 166 = .ok (.putfield 30, 3) := by decide +kernel
theorem d_Mod_root_169 : decode b_Mod_root 169 = .ok (.aload_n 0, 1) := by decide +kernel
theorem d_Mod_root_170 : decode b_Mod_root 170 = .ok (.getfield 23, 3) := by decide +kernel
theorem d_Mod_root_173 : decode b_Mod_root 173 = .ok (.aload_n 0, 1) := by decide +kernel
theorem d_Mod_root_174 : decode b_Mod_root 174 = .ok (.getfield 33, 3) := by decide +kernel
theorem d_Mod_root_177 : decode b_Mod_root 177 = .ok (.aload_n 0, 1) := by decide +kernel
theorem d_Mod_root_178 : decode b_Mod_root 178 = .ok (.getfield 20, 3) := by decide +kernel
theorem d_Mod_root_181 : decode b_Mod_root 181 = .ok (.aload_n 0, 1) := by decide +kernel
theorem d_Mod_root_182 : decode b_Mod_root 182 = .ok (.getfield 30, 3) := by decide +kernel
theorem d_Mod_root_185 : decode b_Mod_root 185 = .ok (.invokestatic 61, 3) := by decide +kernel
theorem d_Mod_root_188 : decode b_Mod_root 188 = .ok (.ifCond .lt 7, 3) := by decide +kernel
theorem d_Mod_root_191 : decode b_Mod_root 191 = .ok (.iconst 1, 1) := by decide +kernel
theorem d_Mod_root_192 : decode b_Mod_root 192 = .ok (.goto 4, 3) := by decide +kernel
theorem d_Mod_root_195 : decode b_Mod_root 195 = .ok (.iconst 0, 1) := by decide +kernel
theorem d_Mod_root_196 : decode b_Mod_root 196 = .ok (.istore 5, 2) := by decide +kernel
theorem d_Mod_root_198 : decode b_Mod_root 198 = .ok (.iload 5, 2) := by decide +kernel
theorem d_Mod_root_200 : decode b_Mod_root 200 = .ok (.ifCond .eq 26, 3) := by decide +kernel
theorem d_Mod_root_203 : decode b_Mod_root 203 = .ok (.aload_n 0, 1) := by decide +kernel
theorem d_Mod_root_204 : decode b_Mod_root 204 = .ok (.aload_n 0, 1) := by decide +kernel
theorem d_Mod_root_205 : decode b_Mod_root 205 = .ok (.getfield 23, 3) := by decide +kernel
theorem d_Mod_root_208 : decode b_Mod_root 208 = .ok (.aload_n 0, 1) := by decide +kernel
theorem d_Mod_root_209 : decode b_Mod_root 209 = .ok (.getfield 33, 3) := by decide +kernel
theorem d_Mod_root_212 : decode b_Mod_root 212 = .ok (.aload_n 0, 1) := by decide +kernel
theorem d_Mod_root_213 : decode b_Mod_root 213 = .ok (.getfield 20, 3) := by decide +kernel
theorem d_Mod_root_216 : decode b_Mod_root 216 = .ok (.aload_n 0, 1) := by decide +kernel
theorem d_Mod_root_217 : decode b_Mod_root 217 = .ok (.getfield 30, 3) := by decide +kernel
theorem d_Mod_root_220 : decode b_Mod_root 220 = .ok (.invokestatic 65, 3) := by decide +kernel
theorem d_Mod_root_223 : decode b_Mod_root 223 = .ok (.putfield 33, 3) := by decide +kernel
theorem d_Mod_root_226 : decode b_Mod_root 226 = .ok (.aload_n 0, 1) := by decide +kernel
theorem d_Mod_root_227 : decode b_Mod_root 227 = .ok (.invokevirtual 75, 3) := by decide +kernel
theorem d_Mod_root_230 : decode b_Mod_root 230 = .ok (.aload_n 0, 1) := by decide +kernel
theorem d_Mod_root_231 : decode b_Mod_root 231 = .ok (.getfield 20, 3) := by decide +kernel
theorem d_Mod_root_234 : decode b_Mod_root 234 = .ok (.iconst 0, 1) := by decide +kernel
theorem d_Mod_root_235 : decode b_Mod_root 235 = .ok (.aload_n 0, 1) := by decide +kernel
theorem d_Mod_root_236 : decode b_Mod_root 236 = .ok (.getfield 20, 3) := by decide +kernel
theorem d_Mod_root_239 : decode b_Mod_root 239 = .ok (.iconst 0, 1) := by decide +kernel
theorem d_Mod_root_240 : decode b_Mod_root 240 = .ok (.iaload, 1) := by decide +kernel
theorem d_Mod_root_241 : decode b_Mod_root 241 = .ok (.ldc 78, 2) := by decide +kernel
theorem d_Mod_root_243 : decode b_Mod_root 243 = .ok (.iand, 1) := by decide +kernel
theorem d_Mod_root_244 : decode b_Mod_root 244 = .ok (.iload 5, 2) := by decide +kernel
theorem d_Mod_root_246 : decode b_Mod_root 246 = .ok (.ifCond .eq 7, 3) := by decide +kernel
theorem d_Mod_root_249 : decode b_Mod_root 249 = .ok (.iconst 1, 1) := by decide +kernel
theorem d_Mod_root_250 : decode b_Mod_root 250 = .ok (.goto 4, 3) := by decide +kernel
theorem d_Mod_root_253 : decode b_Mod_root 253 = .ok (.iconst 0, 1) := by decide +kernel
theorem d_Mod_root_254 : decode b_Mod_root 254 = .ok (.ior, 1) := by decide +kernel
theorem d_Mod_root_255 : decode b_Mod_root 255 = .ok (.iastore, 1) := by decide +kernel
theorem d_Mod_root_256 : decode b_Mod_root 256 = .ok (.aload_n 0, 1) := by decide +kernel
theorem d_Mod_root_257 : decode b_Mod_root 257 = .ok (.aload_n 0, 1) := by decide +kernel
theorem d_Mod_root_258 : decode b_Mod_root 258 = .ok (.getfield 20, 3) := by decide +kernel
theorem d_Mod_root_261 : decode b_Mod_root 261 = .ok (.aload_n 0, 1) := by decide +kernel
theorem d_Mod_root_262 : decode b_Mod_root 262 = .ok (.getfield 30, 3) := by decide +kernel
theorem d_Mod_root_265 : decode b_Mod_root 265 = .ok (.iconst 1, 1) := by decide +kernel
theorem d_Mod_root_266 : decode b_Mod_root 266 = .ok (.iadd, 1) := by decide +kernel
theorem d_Mod_root_267 : decode b_Mod_root 267 = .ok (.invokestatic 36, 3) := by decide +kernel
theorem d_Mod_root_270 : decode b_Mod_root 270 = .ok (.putfield 30, 3) := by decide +kernel
theorem d_Mod_root_273 : decode b_Mod_root 273 = .ok (.iinc 4 (-1), 3) := by decide +kernel
theorem d_Mod_root_276 : decode b_Mod_root 276 = .ok (.goto (-198), 3) := by decide +kernel
theorem d_Mod_root_279 : decode b_Mod_root 279 = .ok (.aload_n 0, 1) := by decide +kernel
theorem d_Mod_root_280 : decode b_Mod_root 280 = .ok (.iload_n 1, 1) := by decide +kernel
theorem d_Mod_root_281 : decode b_Mod_root 281 = .ok (.aload_n 0, 1) := by decide +kernel
theorem d_Mod_root_282 : decode b_Mod_root 282 = .ok (.getfield 20, 3) := by decide +kernel
theorem d_Mod_root_285 : decode b_Mod_root 285 = .ok (.aload_n 0, 1) := by decide +kernel
theorem d_Mod_root_286 : decode b_Mod_root 286 = .ok (.getfield 30, 3) := by decide +kernel
theorem d_Mod_root_289 : decode b_Mod_root 289 = .ok (.invokevirtual 54, 3) := by decide +kernel
theorem d_Mod_root_292 : decode b_Mod_root 292 = .ok (.ifCond .eq 23, 3) := by decide +kernel
theorem d_Mod_root_295 : decode b_Mod_root 295 = .ok (.aload_n 0, 1) := by decide +kernel
theorem d_Mod_root_296 : decode b_Mod_root 296 = .ok (.iload_n 2, 1) := by decide +kernel
theorem d_Mod_root_297 : decode b_Mod_root 297 = .ok (.aload_n 0, 1) := by decide +kernel
theorem d_Mod_root_298 : decode b_Mod_root 298 = .ok (.getfield 23, 3) := by decide +kernel
theorem d_Mod_root_301 : decode b_Mod_root 301 = .ok (.aload_n 0, 1) := by decide +kernel
theorem d_Mod_root_302 : decode b_Mod_root 302 = .ok (.getfield 33, 3) := by decide +kernel
theorem d_Mod_root_305 : decode b_Mod_root 305 = .ok (.invokevirtual 54, 3) := by decide +kernel
theorem d_Mod_root_308 : decode b_Mod_root 308 = .ok (.ifCond .eq 7, 3) := by decide +kernel
theorem d_Mod_root_311 : decode b_Mod_root 311 = .ok (.iconst 1, 1) := by decide +kernel
theorem d_Mod_root_312 : decode b_Mod_root 312 = .ok (.goto 4, 3) := by decide +kernel
theorem d_Mod_root_315 : decode b_Mod_root 315 = .ok (.iconst 0, 1) := by decide +kernel
theorem d_Mod_root_316 : decode b_Mod_root 316 = .ok (.ireturn, 1) := by decide +kernel
theorem d_Mod_shift_0 : decode b_Mod_shift 0 = .ok (.iload_n 1, 1) := by decide +kernel
theorem d_Mod_shift_1 : decode b_Mod_shift 1 = .ok (.invokestatic 41, 3) := by decide +kernel
theorem d_Mod_shift_4 : decode b_Mod_shift 4 = .ok (.ifCond .eq 10, 3) := by decide +kernel
theorem d_Mod_shift_7 : decode b_Mod_shift 7 = .ok (.iload_n 2, 1) := by decide +kernel
theorem d_Mod_shift_8 : decode b_Mod_shift 8 = .ok (.invokestatic 41, 3) := by decide +kernel
theorem d_Mod_shift_11 : decode b_Mod_shift 11 = .ok (.ifCond .ne 5, 3) := by decide +kernel
theorem d_Mod_shift_14 : decode b_Mod_shift 14 = .ok (.iconst 0, 1) := by decide +kernel
theorem d_Mod_shift_15 : decode b_Mod_shift 15 = .ok (.ireturn, 1) := by decide +kernel
theorem d_Mod_shift_16 : decode b_Mod_shift 16 = .ok (.iload_n 3, 1) := by decide +kernel
theorem d_Mod_shift_17 : decode b_Mod_shift 17 = .ok (.ifCond .ge 17, 3) := by decide +kernel
theorem d_Mod_shift_20 : decode b_Mod_shift 20 = .ok (.aload_n 0, 1) := by decide +kernel
theorem d_Mod_shift_21 : decode b_Mod_shift 21 = .ok (.iload_n 1, 1) := by decide +kernel
theorem d_Mod_shift_22 : decode b_Mod_shift 22 = .ok (.iload_n 2, 1) := by decide +kernel
theorem d_Mod_shift_23 : decode b_Mod_shift 23 = .ok (.iload_n 3, 1) := by decide +kernel
theorem d_Mod_shift_24 : decode b_Mod_shift 24 = .ok (.i2l, 1) := by decide +kernel
theorem d_Mod_shift_25 : decode b_Mod_shift 25 = .ok (.lneg, 1) := by decide +kernel
theorem d_Mod_shift_26 : decode b_Mod_shift 26 = .ok (.ldc2_w 81, 3) := by decide +kernel
theorem d_Mod_shift_29 : decode b_Mod_shift 29 = .ok (.lconst 0, 1) := by decide +kernel
theorem d_Mod_shift_30 : decode b_Mod_shift 30 = .ok (.invokevirtual 83, 3) := by decide +kernel
theorem d_Mod_shift_33 : decode b_Mod_shift 33 = .ok (.ireturn, 1) := by decide +kernel
theorem d_Mod_shift_34 : decode b_Mod_shift 34 = .ok (.aload_n 0, 1) := by decide +kernel
theorem d_Mod_shift_35 : decode b_Mod_shift 35 = .ok (.iload_n 2, 1) := by decide +kernel
theorem d_Mod_shift_36 : decode b_Mod_shift 36 = .ok (.invokevirtual 87, 3) := by decide +kernel
theorem d_Mod_shift_39 : decode b_Mod_shift 39 = .ok (.i2l, 1) := by decide +kernel
theorem d_Mod_shift_40 : decode b_Mod_shift 40 = .ok (.lstore 4, 2) := by decide +kernel
theorem d_Mod_shift_42 : decode b_Mod_shift 42 = .ok (.lload 4, 2) := by decide +kernel
theorem d_Mod_shift_44 : decode b_Mod_shift 44 = .ok (.lconst 0, 1) := by decide +kernel
theorem d_Mod_shift_45 : decode b_Mod_shift 45 = .ok (.lcmp, 1) := by decide +kernel
theorem d_Mod_shift_46 : decode b_Mod_shift 46 = .ok (.ifCond .le 17, 3) := by decide +kernel
theorem d_Mod_shift_49 : decode b_Mod_shift 49 = .ok (.lload 4, 2) := by decide +kernel
theorem d_Mod_shift_51 : decode b_Mod_shift 51 = .ok (.iload_n 3, 1) := by decide +kernel
theorem d_Mod_shift_52 : decode b_Mod_shift 52 = .ok (.i2l, 1) := by decide +kernel
theorem d_Mod_shift_53 : decode b_Mod_shift 53 = .ok (.ladd, 1) := by decide +kernel
theorem d_Mod_shift_54 : decode b_Mod_shift 54 = .ok (.ldc2_w 81, 3) := by decide +kernel
theorem d_Mod_shift_57 : decode b_Mod_shift 57 = .ok (.lcmp, 1) := by decide +kernel
theorem d_Mod_shift_58 : decode b_Mod_shift 58 = .ok (.ifCond .le 5, 3) := by decide +kernel
theorem d_Mod_shift_61 : decode b_Mod_shift 61 = .ok (.iconst 0, 1) := by decide +kernel
theorem d_Mod_shift_62 : decode b_Mod_shift 62 = .ok (.ireturn, 1) := by decide +kernel
theorem d_Mod_shift_63 : decode b_Mod_shift 63 = .ok (.aload_n 0, 1) := by decide +kernel
theorem d_Mod_shift_64 : decode b_Mod_shift 64 = .ok (.iload_n 1, 1) := by decide +kernel
theorem d_Mod_shift_65 : decode b_Mod_shift 65 = .ok (.iload_n 2, 1) := by decide +kernel
theorem d_Mod_shift_66 : decode b_Mod_shift 66 = .ok (.lconst 0, 1) := by decide +kernel
theorem d_Mod_shift_67 : decode b_Mod_shift 67 = .ok (.lload 4, 2) := by decide +kernel
theorem d_Mod_shift_69 : decode b_Mod_shift 69 = .ok (.iload_n 3, 1) := by decide +kernel
theorem d_Mod_shift_70 : decode b_Mod_shift 70 = .ok (.i2l, 1) := by decide +kernel
theorem d_Mod_shift_71 : decode b_Mod_shift 71 = .ok (.invokevirtual 83, 3) := by decide +kernel
theorem d_Mod_shift_74 : decode b_Mod_shift 74 = .ok (.ireturn, 1) := by decide +kernel
theorem d_Mod_spread_0 : decode b_Mod_spread 0 = .ok (.iload_n 1, 1) := by decide +kernel
theorem d_Mod_spread_1 : decode b_Mod_spread 1 = .ok (.invokestatic 41, 3) := by decide +kernel
theorem d_Mod_spread_4 : decode b_Mod_spread 4 = .ok (.ifCond .eq 16, 3) := by decide +kernel
theorem d_Mod_spread_7 : decode b_Mod_spread 7 = .ok (.iload 4, 2) := by decide +kernel
theorem d_Mod_spread_9 : decode b_Mod_spread 9 = .ok (.ifCond .lt 11, 3) := by decide +kernel
theorem d_Mod_spread_12 : decode b_Mod_spread 12 = .ok (.iload 4, 2) := by decide +kernel
theorem d_Mod_spread_14 : decode b_Mod_spread 14 = .ok (.sipush 1024, 3) := by decide +kernel
theorem d_Mod_spread_17 : decode b_Mod_spread 17 = .ok (.if_icmp .le 5, 3) := by decide +kernel
theorem d_Mod_spread_20 : decode b_Mod_spread 20 = .ok (.iconst 0, 1) := by decide +kernel
theorem d_Mod_spread_21 : decode b_Mod_spread 21 = .ok (.ireturn, 1) := by decide +kernel
theorem d_Mod_spread_22 : decode b_Mod_spread 22 = .ok (.aload_n 0, 1) := by decide +kernel
theorem d_Mod_spread_23 : decode b_Mod_spread 23 = .ok (.invokevirtual 49, 3) := by decide +kernel
theorem d_Mod_spread_26 : decode b_Mod_spread 26 = .ok (.iconst 0, 1) := by decide +kernel
theorem d_Mod_spread_27 : decode b_Mod_spread 27 = .ok (.istore 5, 2) := by decide +kernel
theorem d_Mod_spread_29 : decode b_Mod_spread 29 = .ok (.iload 5, 2) := by decide +kernel
theorem d_Mod_spread_31 : decode b_Mod_spread 31 = .ok (.iconst 4, 1) := by decide +kernel
theorem d_Mod_spread_32 : decode b_Mod_spread 32 = .ok (.iload 4, 2) := by decide +kernel
theorem d_Mod_spread_34 : decode b_Mod_spread 34 = .ok (.imul, 1) := by decide +kernel
theorem d_Mod_spread_35 : decode b_Mod_spread 35 = .ok (.if_icmp .ge 30, 3) := by decide +kernel
theorem d_Mod_spread_38 : decode b_Mod_spread 38 = .ok (.aload_n 0, 1) := by decide +kernel
theorem d_Mod_spread_39 : decode b_Mod_spread 39 = .ok (.getfield 23, 3) := by decide +kernel
theorem d_Mod_spread_42 : decode b_Mod_spread 42 = .ok (.iload 5, 2) := by decide +kernel
theorem d_Mod_spread_44 : decode b_Mod_spread 44 = .ok (.lload_n 2, 1) := by decide +kernel
theorem d_Mod_spread_45 : decode b_Mod_spread 45 = .ok (.bipush 16, 2) := by decide +kernel
theorem d_Mod_spread_47 : decode b_Mod_spread 47 = .ok (.iload 5, 2) := by decide +kernel
theorem d_Mod_spread_49 : decode b_Mod_spread 49 = .ok (.iconst 4, 1) := by decide +kernel
theorem d_Mod_spread_50 : decode b_Mod_spread 50 = .ok (.irem, 1) := by decide +kernel
theorem d_Mod_spread_51 : decode b_Mod_spread 51 = .ok (.imul, 1) := by decide +kernel
theorem d_Mod_spread_52 : decode b_Mod_spread 52 = .ok (.lshr, 1) := by decide +kernel
theorem d_Mod_spread_53 : decode b_Mod_spread 53 = .ok (.ldc2_w 52, 3) := by decide +kernel
theorem d_Mod_spread_56 : decode b_Mod_spread 56 = .ok (.land, 1) := by decide +kernel
theorem d_Mod_spread_57 : decode b_Mod_spread 57 = .ok (.l2i, 1) := by decide +kernel
theorem d_Mod_spread_58 : decode b_Mod_spread 58 = .ok (.iastore, 1) := by decide +kernel
theorem d_Mod_spread_59 : decode b_Mod_spread 59 = .ok (.iinc 5 1, 3) := by decide +kernel
theorem d_Mod_spread_62 : decode b_Mod_spread 62 = .ok (.goto (-33), 3) := by decide +kernel
theorem d_Mod_spread_65 : decode b_Mod_spread 65 = .ok (.aload_n 0, 1) := by decide +kernel
theorem d_Mod_spread_66 : decode b_Mod_spread 66 = .ok (.iload_n 1, 1) := by decide +kernel
theorem d_Mod_spread_67 : decode b_Mod_spread 67 = .ok (.aload_n 0, 1) := by decide +kernel
theorem d_Mod_spread_68 : decode b_Mod_spread 68 = .ok (.getfield 23, 3) := by decide +kernel
theorem d_Mod_spread_71 : decode b_Mod_spread 71 = .ok (.iconst 4, 1) := by decide +kernel
theorem d_Mod_spread_72 : decode b_Mod_spread 72 = .ok (.iload 4, 2) := by decide +kernel
theorem d_Mod_spread_74 : decode b_Mod_spread 74 = .ok (.imul, 1) := by decide +kernel
theorem d_Mod_spread_75 : decode b_Mod_spread 75 = .ok (.invokevirtual 54, 3) := by decide +kernel
theorem d_Mod_spread_78 : decode b_Mod_spread 78 = .ok (.ireturn, 1) := by decide +kernel
theorem d_Mod_take_0 : decode b_Mod_take 0 = .ok (.iload_n 1, 1) := by decide +kernel
theorem d_Mod_take_1 : decode b_Mod_take 1 = .ok (.invokestatic 41, 3) := by decide +kernel
theorem d_Mod_take_4 : decode b_Mod_take 4 = .ok (.ifCond .eq 17, 3) := by decide +kernel
theorem d_Mod_take_7 : decode b_Mod_take 7 = .ok (.iload_n 2, 1) := by decide +kernel
theorem d_Mod_take_8 : decode b_Mod_take 8 = .ok (.invokestatic 41, 3) := by decide +kernel
theorem d_Mod_take_11 : decode b_Mod_take 11 = .ok (.ifCond .eq 10, 3) := by decide +kernel
theorem d_Mod_take_14 : decode b_Mod_take 14 = .ok (.iload_n 3, 1) := by decide +kernel
theorem d_Mod_take_15 : decode b_Mod_take 15 = .ok (.invokestatic 41, 3) := by decide +kernel
theorem d_Mod_take_18 : decode b_Mod_take 18 = .ok (.ifCond .ne 5, 3) := by decide +kernel
theorem d_Mod_take_21 : decode b_Mod_take 21 = .ok (.iconst 0, 1) := by decide +kernel
theorem d_Mod_take_22 : decode b_Mod_take 22 = .ok (.ireturn, 1) := by decide +kernel
theorem d_Mod_take_23 : decode b_Mod_take 23 = .ok (.aload_n 0, 1) := by decide +kernel
theorem d_Mod_take_24 : decode b_Mod_take 24 = .ok (.iload_n 2, 1) := by decide +kernel
theorem d_Mod_take_25 : decode b_Mod_take 25 = .ok (.invokevirtual 45, 3) := by decide +kernel
theorem d_Mod_take_28 : decode b_Mod_take 28 = .ok (.aload_n 0, 1) := by decide +kernel
theorem d_Mod_take_29 : decode b_Mod_take 29 = .ok (.iload_n 3, 1) := by decide +kernel
theorem d_Mod_take_30 : decode b_Mod_take 30 = .ok (.invokevirtual 58, 3) := by decide +kernel
theorem d_Mod_take_33 : decode b_Mod_take 33 = .ok (.aload_n 0, 1) := by decide +kernel
theorem d_Mod_take_34 : decode b_Mod_take 34 = .ok (.getfield 17, 3) := by decide +kernel
theorem d_Mod_take_37 : decode b_Mod_take 37 = .ok (.aload_n 0, 1) := by decide +kernel
theorem d_Mod_take_38 : decode b_Mod_take 38 = .ok (.getfield 26, 3) := by decide +kernel
theorem d_Mod_take_41 : decode b_Mod_take 41 = .ok (.aload_n 0, 1) := by decide +kernel
theorem d_Mod_take_42 : decode b_Mod_take 42 = .ok (.getfield 20, 3) := by decide +kernel
theorem d_Mod_take_45 : decode b_Mod_take 45 = .ok (.aload_n 0, 1) := by decide +kernel
theorem d_Mod_take_46 : decode b_Mod_take 46 = .ok (.getfield 30, 3) := by decide +kernel
theorem d_Mod_take_49 : decode b_Mod_take 49 = .ok (.invokestatic 61, 3) := by decide +kernel
theorem d_Mod_take_52 : decode b_Mod_take 52 = .ok (.ifCond .ge 5, 3) := by decide +kernel
theorem d_Mod_take_55 : decode b_Mod_take 55 = .ok (.iconst 0, 1) := by decide +kernel
theorem d_Mod_take_56 : decode b_Mod_take 56 = .ok (.ireturn, 1) := by decide +kernel
theorem d_Mod_take_57 : decode b_Mod_take 57 = .ok (.aload_n 0, 1) := by decide +kernel
theorem d_Mod_take_58 : decode b_Mod_take 58 = .ok (.aload_n 0, 1) := by decide +kernel
theorem d_Mod_take_59 : decode b_Mod_take 59 = .ok (.getfield 17, 3) := by decide +kernel
theorem d_Mod_take_62 : decode b_Mod_take 62 = .ok (.aload_n 0, 1) := by decide +kernel
theorem d_Mod_take_63 : decode b_Mod_take 63 = .ok (.getfield 26, 3) := by decide +kernel
theorem d_Mod_take_66 : decode b_Mod_take 66 = .ok (.aload_n 0, 1) := by decide +kernel
theorem d_Mod_take_67 : decode b_Mod_take 67 = .ok (.getfield 20, 3) := by decide +kernel
theorem d_Mod_take_70 : decode b_Mod_take 70 = .ok (.aload_n 0, 1) := by decide +kernel
theorem d_Mod_take_71 : decode b_Mod_take 71 = .ok (.getfield 30, 3) := by decide +kernel
theorem d_Mod_take_74 : decode b_Mod_take 74 = .ok (.invokestatic 65, 3) := by decide +kernel
theorem d_Mod_take_77 : decode b_Mod_take 77 = .ok (.putfield 26, 3) := by decide +kernel
theorem d_Mod_take_80 : decode b_Mod_take 80 = .ok (.aload_n 0, 1) := by decide +kernel
theorem d_Mod_take_81 : decode b_Mod_take 81 = .ok (.iload_n 1, 1) := by decide +kernel
theorem d_Mod_take_82 : decode b_Mod_take 82 = .ok (.aload_n 0, 1) := by decide +kernel
theorem d_Mod_take_83 : decode b_Mod_take 83 = .ok (.getfield 17, 3) := by decide +kernel
theorem d_Mod_take_86 : decode b_Mod_take 86 = .ok (.aload_n 0, 1) := by decide +kernel
theorem d_Mod_take_87 : decode b_Mod_take 87 = .ok (.getfield 26, 3) := by decide +kernel
theorem d_Mod_take_90 : decode b_Mod_take 90 = .ok (.invokevirtual 54, 3) := by decide +kernel
theorem d_Mod_take_93 : decode b_Mod_take 93 = .ok (.ireturn, 1) := by decide +kernel
theorem d_Mod_times_0 : decode b_Mod_times 0 = .ok (.iload_n 1, 1) := by decide +kernel
theorem d_Mod_times_1 : decode b_Mod_times 1 = .ok (.invokestatic 41, 3) := by decide +kernel
theorem d_Mod_times_4 : decode b_Mod_times 4 = .ok (.ifCond .eq 17, 3) := by decide +kernel
theorem d_Mod_times_7 : decode b_Mod_times 7 = .ok (.iload_n 2, 1) := by decide +kernel
theorem d_Mod_times_8 : decode b_Mod_times 8 = .ok (.invokestatic 41, 3) := by decide +kernel
theorem d_Mod_times_11 : decode b_Mod_times 11 = .ok (.ifCond .eq 10, 3) := by decide +kernel
theorem d_Mod_times_14 : decode b_Mod_times 14 = .ok (.iload_n 3, 1) := by decide +kernel
theorem d_Mod_times_15 : decode b_Mod_times 15 = .ok (.invokestatic 41, 3) := by decide +kernel
theorem d_Mod_times_18 : decode b_Mod_times 18 = .ok (.ifCond .ne 5, 3) := by decide +kernel
theorem d_Mod_times_21 : decode b_Mod_times 21 = .ok (.iconst 0, 1) := by decide +kernel
theorem d_Mod_times_22 : decode b_Mod_times 22 = .ok (.ireturn, 1) := by decide +kernel
theorem d_Mod_times_23 : decode b_Mod_times 23 = .ok (.aload_n 0, 1) := by decide +kernel
theorem d_Mod_times_24 : decode b_Mod_times 24 = .ok (.iload_n 2, 1) := by decide +kernel
theorem d_Mod_times_25 : decode b_Mod_times 25 = .ok (.invokevirtual 45, 3) := by decide +kernel
theorem d_Mod_times_28 : decode b_Mod_times 28 = .ok (.aload_n 0, 1) := by decide +kernel
theorem d_Mod_times_29 : decode b_Mod_times 29 = .ok (.iload_n 3, 1) := by decide +kernel
theorem d_Mod_times_30 : decode b_Mod_times 30 = .ok (.invokevirtual 58, 3) := by decide +kernel
theorem d_Mod_times_33 : decode b_Mod_times 33 = .ok (.aload_n 0, 1) := by decide +kernel
theorem d_Mod_times_34 : decode b_Mod_times 34 = .ok (.invokevirtual 49, 3) := by decide +kernel
theorem d_Mod_times_37 : decode b_Mod_times 37 = .ok (.iconst 0, 1) := by decide +kernel
theorem d_Mod_times_38 : decode b_Mod_times 38 = .ok (.istore 4, 2) := by decide +kernel
theorem d_Mod_times_40 : decode b_Mod_times 40 = .ok (.iload 4, 2) := by decide +kernel
theorem d_Mod_times_42 : decode b_Mod_times 42 = .ok (.aload_n 0, 1) := by decide +kernel
theorem d_Mod_times_43 : decode b_Mod_times 43 = .ok (.getfield 26, 3) := by decide +kernel
theorem d_Mod_times_46 : decode b_Mod_times 46 = .ok (.if_icmp .ge 88, 3) := by decide +kernel
theorem d_Mod_times_49 : decode b_Mod_times 49 = .ok (.lconst 0, 1) := by decide +kernel
theorem d_Mod_times_50 : decode b_Mod_times 50 = .ok (.lstore 5, 2) := by decide +kernel
theorem d_Mod_times_52 : decode b_Mod_times 52 = .ok (.iconst 0, 1) := by decide +kernel
theorem d_Mod_times_53 : decode b_Mod_times 53 = .ok (.istore 7, 2) := by decide +kernel
theorem d_Mod_times_55 : decode b_Mod_times 55 = .ok (.iload 7, 2) := by decide +kernel
theorem d_Mod_times_57 : decode b_Mod_times 57 = .ok (.aload_n 0, 1) := by decide +kernel
theorem d_Mod_times_58 : decode b_Mod_times 58 = .ok (.getfield 30, 3) := by decide +kernel
theorem d_Mod_times_61 : decode b_Mod_times 61 = .ok (.if_icmp .gt 67, 3) := by decide +kernel
theorem d_Mod_times_64 : decode b_Mod_times 64 = .ok (.aload_n 0, 1) := by decide +kernel
theorem d_Mod_times_65 : decode b_Mod_times 65 = .ok (.getfield 17, 3) := by decide +kernel
theorem d_Mod_times_68 : decode b_Mod_times 68 = .ok (.iload 4, 2) := by decide +kernel
theorem d_Mod_times_70 : decode b_Mod_times 70 = .ok (.iaload, 1) := by decide +kernel
theorem d_Mod_times_71 : decode b_Mod_times 71 = .ok (.i2l, 1) := by decide +kernel
theorem d_Mod_times_72 : decode b_Mod_times 72 = .ok (.aload_n 0, 1) := by decide +kernel
theorem d_Mod_times_73 : decode b_Mod_times 73 = .ok (.getfield 20, 3) := by decide +kernel
theorem d_Mod_times_76 : decode b_Mod_times 76 = .ok (.iload 7, 2) := by decide +kernel
theorem d_Mod_times_78 : decode b_Mod_times 78 = .ok (.iaload, 1) := by decide +kernel
theorem d_Mod_times_79 : decode b_Mod_times 79 = .ok (.i2l, 1) := by decide +kernel
theorem d_Mod_times_80 : decode b_Mod_times 80 = .ok (.lmul, 1) := by decide +kernel
theorem d_Mod_times_81 : decode b_Mod_times 81 = .ok (.aload_n 0, 1) := by decide +kernel
theorem d_Mod_times_82 : decode b_Mod_times 82 = .ok (.getfield 23, 3) := by decide +kernel
theorem d_Mod_times_85 : decode b_Mod_times 85 = .ok (.iload 4, 2) := by decide +kernel
theorem d_Mod_times_87 : decode b_Mod_times 87 = .ok (.iload 7, 2) := by decide +kernel
theorem d_Mod_times_89 : decode b_Mod_times 89 = .ok (.iadd, 1) := by decide +kernel
theorem d_Mod_times_90 : decode b_Mod_times 90 = .ok (.iaload, 1) := by decide +kernel
theorem d_Mod_times_91 : decode b_Mod_times 91 = .ok (.i2l, 1) := by decide +kernel
theorem d_Mod_times_92 : decode b_Mod_times 92 = .ok (.ladd, 1) := by decide +kernel
theorem d_Mod_times_93 : decode b_Mod_times 93 = .ok (.lload 5, 2) := by decide +kernel
theorem d_Mod_times_95 : decode b_Mod_times 95 = .ok (.ladd, 1) := by decide +kernel
theorem d_Mod_times_96 : decode b_Mod_times 96 = .ok (.lstore 8, 2) := by decide +kernel
theorem d_Mod_times_98 : decode b_Mod_times 98 = .ok (.aload_n 0, 1) := by decide +kernel
theorem d_Mod_times_99 : decode b_Mod_times 99 = .ok (.getfield 23, 3) := by decide +kernel
theorem d_Mod_times_102 : decode b_Mod_times 102 = .ok (.iload 4, 2) := by decide +kernel
theorem d_Mod_times_104 : decode b_Mod_times 104 = .ok (.iload 7, 2) := by decide +kernel
theorem d_Mod_times_106 : decode b_Mod_times 106 = .ok (.iadd, 1) := by decide +kernel
theorem d_Mod_times_107 : decode b_Mod_times 107 = .ok (.lload 8, 2) := by decide +kernel
theorem d_Mod_times_109 : decode b_Mod_times 109 = .ok (.ldc2_w 52, 3) := by decide +kernel
theorem d_Mod_times_112 : decode b_Mod_times 112 = .ok (.land, 1) := by decide +kernel
theorem d_Mod_times_113 : decode b_Mod_times 113 = .ok (.l2i, 1) := by decide +kernel
theorem d_Mod_times_114 : decode b_Mod_times 114 = .ok (.iastore, 1) := by decide +kernel
theorem d_Mod_times_115 : decode b_Mod_times 115 = .ok (.lload 8, 2) := by decide +kernel
theorem d_Mod_times_117 : decode b_Mod_times 117 = .ok (.bipush 16, 2) := by decide +kernel
theorem d_Mod_times_119 : decode b_Mod_times 119 = .ok (.lshr, 1) := by decide +kernel
theorem d_Mod_times_120 : decode b_Mod_times 120 = .ok (.lstore 5, 2) := by decide +kernel
theorem d_Mod_times_122 : decode b_Mod_times 122 = .ok (.iinc 7 1, 3) := by decide +kernel
theorem d_Mod_times_125 : decode b_Mod_times 125 = .ok (.goto (-70), 3) := by decide +kernel
theorem d_Mod_times_128 : decode b_Mod_times 128 = .ok (.iinc 4 1, 3) := by decide +kernel
theorem d_Mod_times_131 : decode b_Mod_times 131 = .ok (.goto (-91), 3) := by decide +kernel
theorem d_Mod_times_134 : decode b_Mod_times 134 = .ok (.aload_n 0, 1) := by decide +kernel
theorem d_Mod_times_135 : decode b_Mod_times 135 = .ok (.iload_n 1, 1) := by decide +kernel
theorem d_Mod_times_136 : decode b_Mod_times 136 = .ok (.aload_n 0, 1) := by decide +kernel
theorem d_Mod_times_137 : decode b_Mod_times 137 = .ok (.getfield 23, 3) := by decide +kernel
theorem d_Mod_times_140 : decode b_Mod_times 140 = .ok (.aload_n 0, 1) := by decide +kernel
theorem d_Mod_times_141 : decode b_Mod_times 141 = .ok (.getfield 26, 3) := by decide +kernel
theorem d_Mod_times_144 : decode b_Mod_times 144 = .ok (.aload_n 0, 1) := by decide +kernel
theorem d_Mod_times_145 : decode b_Mod_times 145 = .ok (.getfield 30, 3) := by decide +kernel
theorem d_Mod_times_148 : decode b_Mod_times 148 = .ok (.iadd, 1) := by decide +kernel
theorem d_Mod_times_149 : decode b_Mod_times 149 = .ok (.iconst 1, 1) := by decide +kernel
theorem d_Mod_times_150 : decode b_Mod_times 150 = .ok (.iadd, 1) := by decide +kernel
theorem d_Mod_times_151 : decode b_Mod_times 151 = .ok (.invokevirtual 54, 3) := by decide +kernel
theorem d_Mod_times_154 : decode b_Mod_times 154 = .ok (.ireturn, 1) := by decide +kernel
theorem d_Mod_trim_0 : decode b_Mod_trim 0 = .ok (.iload_n 1, 1) := by decide +kernel
theorem d_Mod_trim_1 : decode b_Mod_trim 1 = .ok (.istore_n 2, 1) := by decide +kernel
theorem d_Mod_trim_2 : decode b_Mod_trim 2 = .ok (.iload_n 2, 1) := by decide +kernel
theorem d_Mod_trim_3 : decode b_Mod_trim 3 = .ok (.ifCond .le 17, 3) := by decide +kernel
theorem d_Mod_trim_6 : decode b_Mod_trim 6 = .ok (.aload_n 0, 1) := by decide +kernel
theorem d_Mod_trim_7 : decode b_Mod_trim 7 = .ok (.iload_n 2, 1) := by decide +kernel
theorem d_Mod_trim_8 : decode b_Mod_trim 8 = .ok (.iconst 1, 1) := by decide +kernel
theorem d_Mod_trim_9 : decode b_Mod_trim 9 = .ok (.isub, 1) := by decide +kernel
theorem d_Mod_trim_10 : decode b_Mod_trim 10 = .ok (.iaload, 1) := by decide +kernel
theorem d_Mod_trim_11 : decode b_Mod_trim 11 = .ok (.ifCond .ne 9, 3) := by decide +kernel
theorem d_Mod_trim_14 : decode b_Mod_trim 14 = .ok (.iinc 2 (-1), 3) := by decide +kernel
theorem d_Mod_trim_17 : decode b_Mod_trim 17 = .ok (.goto (-15), 3) := by decide +kernel
theorem d_Mod_trim_20 : decode b_Mod_trim 20 = .ok (.iload_n 2, 1) := by decide +kernel
theorem d_Mod_trim_21 : decode b_Mod_trim 21 = .ok (.ireturn, 1) := by decide +kernel
theorem d_Mod_twice_0 : decode b_Mod_twice 0 = .ok (.iload_n 2, 1) := by decide +kernel
theorem d_Mod_twice_1 : decode b_Mod_twice 1 = .ok (.istore_n 3, 1) := by decide +kernel
theorem d_Mod_twice_2 : decode b_Mod_twice 2 = .ok (.iconst 0, 1) := by decide +kernel
theorem d_Mod_twice_3 : decode b_Mod_twice 3 = .ok (.istore 4, 2) := by decide +kernel
theorem d_Mod_twice_5 : decode b_Mod_twice 5 = .ok (.iload 4, 2) := by decide +kernel
theorem d_Mod_twice_7 : decode b_Mod_twice 7 = .ok (.iload_n 1, 1) := by decide +kernel
theorem d_Mod_twice_8 : decode b_Mod_twice 8 = .ok (.if_icmp .ge 34, 3) := by decide +kernel
theorem d_Mod_twice_11 : decode b_Mod_twice 11 = .ok (.iconst 2, 1) := by decide +kernel
theorem d_Mod_twice_12 : decode b_Mod_twice 12 = .ok (.aload_n 0, 1) := by decide +kernel
theorem d_Mod_twice_13 : decode b_Mod_twice 13 = .ok (.iload 4, 2) := by decide +kernel
theorem d_Mod_twice_15 : decode b_Mod_twice 15 = .ok (.iaload, 1) := by decide +kernel
theorem d_Mod_twice_16 : decode b_Mod_twice 16 = .ok (.imul, 1) := by decide +kernel
theorem d_Mod_twice_17 : decode b_Mod_twice 17 = .ok (.iload_n 3, 1) := by decide +kernel
theorem d_Mod_twice_18 : decode b_Mod_twice 18 = .ok (.iadd, 1) := by decide +kernel
theorem d_Mod_twice_19 : decode b_Mod_twice 19 = .ok (.istore 5, 2) := by decide +kernel
theorem d_Mod_twice_21 : decode b_Mod_twice 21 = .ok (.iload 5, 2) := by decide +kernel
theorem d_Mod_twice_23 : decode b_Mod_twice 23 = .ok (.bipush 16, 2) := by decide +kernel
theorem d_Mod_twice_25 : decode b_Mod_twice 25 = .ok (.ishr, 1) := by decide +kernel
theorem d_Mod_twice_26 : decode b_Mod_twice 26 = .ok (.istore_n 3, 1) := by decide +kernel
theorem d_Mod_twice_27 : decode b_Mod_twice 27 = .ok (.aload_n 0, 1) := by decide +kernel
theorem d_Mod_twice_28 : decode b_Mod_twice 28 = .ok (.iload 4, 2) := by decide +kernel
theorem d_Mod_twice_30 : decode b_Mod_twice 30 = .ok (.iload 5, 2) := by decide +kernel
theorem d_Mod_twice_32 : decode b_Mod_twice 32 = .ok (.ldc 40, 2) := by decide +kernel
theorem d_Mod_twice_34 : decode b_Mod_twice 34 = .ok (.iand, 1) := by decide +kernel
theorem d_Mod_twice_35 : decode b_Mod_twice 35 = .ok (.iastore, 1) := by decide +kernel
theorem d_Mod_twice_36 : decode b_Mod_twice 36 = .ok (.iinc 4 1, 3) := by decide +kernel
theorem d_Mod_twice_39 : decode b_Mod_twice 39 = .ok (.goto (-34), 3) := by decide +kernel
theorem d_Mod_twice_42 : decode b_Mod_twice 42 = .ok (.aload_n 0, 1) := by decide +kernel
theorem d_Mod_twice_43 : decode b_Mod_twice 43 = .ok (.iload_n 1, 1) := by decide +kernel
theorem d_Mod_twice_44 : decode b_Mod_twice 44 = .ok (.iload_n 3, 1) := by decide +kernel
theorem d_Mod_twice_45 : decode b_Mod_twice 45 = .ok (.iastore, 1) := by decide +kernel
theorem d_Mod_twice_46 : decode b_Mod_twice 46 = .ok (.iload_n 3, 1) := by decide +kernel
theorem d_Mod_twice_47 : decode b_Mod_twice 47 = .ok (.ifCond .le 9, 3) := by decide +kernel
theorem d_Mod_twice_50 : decode b_Mod_twice 50 = .ok (.iload_n 1, 1) := by decide +kernel
theorem d_Mod_twice_51 : decode b_Mod_twice 51 = .ok (.iconst 1, 1) := by decide +kernel
theorem d_Mod_twice_52 : decode b_Mod_twice 52 = .ok (.iadd, 1) := by decide +kernel
theorem d_Mod_twice_53 : decode b_Mod_twice 53 = .ok (.goto 4, 3) := by decide +kernel
theorem d_Mod_twice_56 : decode b_Mod_twice 56 = .ok (.iload_n 1, 1) := by decide +kernel
theorem d_Mod_twice_57 : decode b_Mod_twice 57 = .ok (.ireturn, 1) := by decide +kernel
theorem d_Mod_word_0 : decode b_Mod_word 0 = .ok (.iload_n 1, 1) := by decide +kernel
theorem d_Mod_word_1 : decode b_Mod_word 1 = .ok (.invokestatic 41, 3) := by decide +kernel
theorem d_Mod_word_4 : decode b_Mod_word 4 = .ok (.ifCond .eq 14, 3) := by decide +kernel
theorem d_Mod_word_7 : decode b_Mod_word 7 = .ok (.iload_n 2, 1) := by decide +kernel
theorem d_Mod_word_8 : decode b_Mod_word 8 = .ok (.ifCond .lt 10, 3) := by decide +kernel
theorem d_Mod_word_11 : decode b_Mod_word 11 = .ok (.iload_n 2, 1) := by decide +kernel
theorem d_Mod_word_12 : decode b_Mod_word 12 = .ok (.sipush 2048, 3) := by decide +kernel
theorem d_Mod_word_15 : decode b_Mod_word 15 = .ok (.if_icmp .lt 5, 3) := by decide +kernel
theorem d_Mod_word_18 : decode b_Mod_word 18 = .ok (.iconst 0, 1) := by decide +kernel
theorem d_Mod_word_19 : decode b_Mod_word 19 = .ok (.ireturn, 1) := by decide +kernel
theorem d_Mod_word_20 : decode b_Mod_word 20 = .ok (.aload_n 0, 1) := by decide +kernel
theorem d_Mod_word_21 : decode b_Mod_word 21 = .ok (.getfield 8, 3) := by decide +kernel
theorem d_Mod_word_24 : decode b_Mod_word 24 = .ok (.sipush 4096, 3) := by decide +kernel
theorem d_Mod_word_27 : decode b_Mod_word 27 = .ok (.iload_n 1, 1) := by decide +kernel
theorem d_Mod_word_28 : decode b_Mod_word 28 = .ok (.imul, 1) := by decide +kernel
theorem d_Mod_word_29 : decode b_Mod_word 29 = .ok (.iconst 2, 1) := by decide +kernel
theorem d_Mod_word_30 : decode b_Mod_word 30 = .ok (.iload_n 2, 1) := by decide +kernel
theorem d_Mod_word_31 : decode b_Mod_word 31 = .ok (.imul, 1) := by decide +kernel
theorem d_Mod_word_32 : decode b_Mod_word 32 = .ok (.iadd, 1) := by decide +kernel
theorem d_Mod_word_33 : decode b_Mod_word 33 = .ok (.iaload, 1) := by decide +kernel
theorem d_Mod_word_34 : decode b_Mod_word 34 = .ok (.aload_n 0, 1) := by decide +kernel
theorem d_Mod_word_35 : decode b_Mod_word 35 = .ok (.getfield 8, 3) := by decide +kernel
theorem d_Mod_word_38 : decode b_Mod_word 38 = .ok (.sipush 4096, 3) := by decide +kernel
theorem d_Mod_word_41 : decode b_Mod_word 41 = .ok (.iload_n 1, 1) := by decide +kernel
theorem d_Mod_word_42 : decode b_Mod_word 42 = .ok (.imul, 1) := by decide +kernel
theorem d_Mod_word_43 : decode b_Mod_word 43 = .ok (.iconst 2, 1) := by decide +kernel
theorem d_Mod_word_44 : decode b_Mod_word 44 = .ok (.iload_n 2, 1) := by decide +kernel
theorem d_Mod_word_45 : decode b_Mod_word 45 = .ok (.imul, 1) := by decide +kernel
theorem d_Mod_word_46 : decode b_Mod_word 46 = .ok (.iadd, 1) := by decide +kernel
theorem d_Mod_word_47 : decode b_Mod_word 47 = .ok (.iconst 1, 1) := by decide +kernel
theorem d_Mod_word_48 : decode b_Mod_word 48 = .ok (.iadd, 1) := by decide +kernel
theorem d_Mod_word_49 : decode b_Mod_word 49 = .ok (.iaload, 1) := by decide +kernel
theorem d_Mod_word_50 : decode b_Mod_word 50 = .ok (.bipush 16, 2) := by decide +kernel
theorem d_Mod_word_52 : decode b_Mod_word 52 = .ok (.ishl, 1) := by decide +kernel
theorem d_Mod_word_53 : decode b_Mod_word 53 = .ok (.ior, 1) := by decide +kernel
theorem d_Mod_word_54 : decode b_Mod_word 54 = .ok (.ireturn, 1) := by decide +kernel
