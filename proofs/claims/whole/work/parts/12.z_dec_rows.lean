theorem d_Rows_addMultiple_0 : decode b_Rows_addMultiple 0 = .ok (.lconst 0, 1) := by decide +kernel
theorem d_Rows_addMultiple_1 : decode b_Rows_addMultiple 1 = .ok (.lstore 6, 2) := by decide +kernel
theorem d_Rows_addMultiple_3 : decode b_Rows_addMultiple 3 = .ok (.iconst 0, 1) := by decide +kernel
theorem d_Rows_addMultiple_4 : decode b_Rows_addMultiple 4 = .ok (.istore 8, 2) := by decide +kernel
theorem d_Rows_addMultiple_6 : decode b_Rows_addMultiple 6 = .ok (.iload 8, 2) := by decide +kernel
theorem d_Rows_addMultiple_8 : decode b_Rows_addMultiple 8 = .ok (.iload_n 3, 1) := by decide +kernel
theorem d_Rows_addMultiple_9 : decode b_Rows_addMultiple 9 = .ok (.if_icmp .ge 54, 3) := by decide +kernel
theorem d_Rows_addMultiple_12 : decode b_Rows_addMultiple 12 = .ok (.lload 6, 2) := by decide +kernel
theorem d_Rows_addMultiple_14 : decode b_Rows_addMultiple 14 = .ok (.lload 4, 2) := by decide +kernel
theorem d_Rows_addMultiple_16 : decode b_Rows_addMultiple 16 = .ok (.aload_n 2, 1) := by decide +kernel
theorem d_Rows_addMultiple_17 : decode b_Rows_addMultiple 17 = .ok (.iload 8, 2) := by decide +kernel
theorem d_Rows_addMultiple_19 : decode b_Rows_addMultiple 19 = .ok (.iaload, 1) := by decide +kernel
theorem d_Rows_addMultiple_20 : decode b_Rows_addMultiple 20 = .ok (.i2l, 1) := by decide +kernel
theorem d_Rows_addMultiple_21 : decode b_Rows_addMultiple 21 = .ok (.ldc2_w 9, 3) := by decide +kernel
theorem d_Rows_addMultiple_24 : decode b_Rows_addMultiple 24 = .ok (.land, 1) := by decide +kernel
theorem d_Rows_addMultiple_25 : decode b_Rows_addMultiple 25 = .ok (.lmul, 1) := by decide +kernel
theorem d_Rows_addMultiple_26 : decode b_Rows_addMultiple 26 = .ok (.aload_n 0, 1) := by decide +kernel
theorem d_Rows_addMultiple_27 : decode b_Rows_addMultiple 27 = .ok (.iload_n 1, 1) := by decide +kernel
theorem d_Rows_addMultiple_28 : decode b_Rows_addMultiple 28 = .ok (.iload 8, 2) := by decide +kernel
theorem d_Rows_addMultiple_30 : decode b_Rows_addMultiple 30 = .ok (.iadd, 1) := by decide +kernel
theorem d_Rows_addMultiple_31 : decode b_Rows_addMultiple 31 = .ok (.iaload, 1) := by decide +kernel
theorem d_Rows_addMultiple_32 : decode b_Rows_addMultiple 32 = .ok (.i2l, 1) := by decide +kernel
theorem d_Rows_addMultiple_33 : decode b_Rows_addMultiple 33 = .ok (.ldc2_w 9, 3) := by decide +kernel
theorem d_Rows_addMultiple_36 : decode b_Rows_addMultiple 36 = .ok (.land, 1) := by decide +kernel
theorem d_Rows_addMultiple_37 : decode b_Rows_addMultiple 37 = .ok (.ladd, 1) := by decide +kernel
theorem d_Rows_addMultiple_38 : decode b_Rows_addMultiple 38 = .ok (.ladd, 1) := by decide +kernel
theorem d_Rows_addMultiple_39 : decode b_Rows_addMultiple 39 = .ok (.lstore 6, 2) := by decide +kernel
theorem d_Rows_addMultiple_41 : decode b_Rows_addMultiple 41 = .ok (.aload_n 0, 1) := by decide +kernel
theorem d_Rows_addMultiple_42 : decode b_Rows_addMultiple 42 = .ok (.iload_n 1, 1) := by decide +kernel
theorem d_Rows_addMultiple_43 : decode b_Rows_addMultiple 43 = .ok (.iload 8, 2) := by decide +kernel
theorem d_Rows_addMultiple_45 : decode b_Rows_addMultiple 45 = .ok (.iadd, 1) := by decide +kernel
theorem d_Rows_addMultiple_46 : decode b_Rows_addMultiple 46 = .ok (.lload 6, 2) := by decide +kernel
theorem d_Rows_addMultiple_48 : decode b_Rows_addMultiple 48 = .ok (.l2i, 1) := by decide +kernel
theorem d_Rows_addMultiple_49 : decode b_Rows_addMultiple 49 = .ok (.iastore, 1) := by decide +kernel
theorem d_Rows_addMultiple_50 : decode b_Rows_addMultiple 50 = .ok (.lload 6, 2) := by decide +kernel
theorem d_Rows_addMultiple_52 : decode b_Rows_addMultiple 52 = .ok (.bipush 32, 2) := by decide +kernel
theorem d_Rows_addMultiple_54 : decode b_Rows_addMultiple 54 = .ok (.lushr, 1) := by decide +kernel
theorem d_Rows_addMultiple_55 : decode b_Rows_addMultiple 55 = .ok (.lstore 6, 2) := by decide +kernel
theorem d_Rows_addMultiple_57 : decode b_Rows_addMultiple 57 = .ok (.iinc 8 1, 3) := by decide +kernel
theorem d_Rows_addMultiple_60 : decode b_Rows_addMultiple 60 = .ok (.goto (-54), 3) := by decide +kernel
theorem d_Rows_addMultiple_63 : decode b_Rows_addMultiple 63 = .ok (.lload 6, 2) := by decide +kernel
theorem d_Rows_addMultiple_65 : decode b_Rows_addMultiple 65 = .ok (.lreturn, 1) := by decide +kernel
theorem d_Rows_addStretch_0 : decode b_Rows_addStretch 0 = .ok (.lload 5, 2) := by decide +kernel
theorem d_Rows_addStretch_2 : decode b_Rows_addStretch 2 = .ok (.lstore 7, 2) := by decide +kernel
theorem d_Rows_addStretch_4 : decode b_Rows_addStretch 4 = .ok (.iconst 0, 1) := by decide +kernel
theorem d_Rows_addStretch_5 : decode b_Rows_addStretch 5 = .ok (.istore 9, 2) := by decide +kernel
theorem d_Rows_addStretch_7 : decode b_Rows_addStretch 7 = .ok (.iload 9, 2) := by decide +kernel
theorem d_Rows_addStretch_9 : decode b_Rows_addStretch 9 = .ok (.iload 4, 2) := by decide +kernel
theorem d_Rows_addStretch_11 : decode b_Rows_addStretch 11 = .ok (.if_icmp .ge 53, 3) := by decide +kernel
theorem d_Rows_addStretch_14 : decode b_Rows_addStretch 14 = .ok (.lload 7, 2) := by decide +kernel
theorem d_Rows_addStretch_16 : decode b_Rows_addStretch 16 = .ok (.aload_n 0, 1) := by decide +kernel
theorem d_Rows_addStretch_17 : decode b_Rows_addStretch 17 = .ok (.iload_n 1, 1) := by decide +kernel
theorem d_Rows_addStretch_18 : decode b_Rows_addStretch 18 = .ok (.iload 9, 2) := by decide +kernel
theorem d_Rows_addStretch_20 : decode b_Rows_addStretch 20 = .ok (.iadd, 1) := by decide +kernel
theorem d_Rows_addStretch_21 : decode b_Rows_addStretch 21 = .ok (.iaload, 1) := by decide +kernel
theorem d_Rows_addStretch_22 : decode b_Rows_addStretch 22 = .ok (.i2l, 1) := by decide +kernel
theorem d_Rows_addStretch_23 : decode b_Rows_addStretch 23 = .ok (.ldc2_w 9, 3) := by decide +kernel
theorem d_Rows_addStretch_26 : decode b_Rows_addStretch 26 = .ok (.land, 1) := by decide +kernel
theorem d_Rows_addStretch_27 : decode b_Rows_addStretch 27 = .ok (.aload_n 2, 1) := by decide +kernel
theorem d_Rows_addStretch_28 : decode b_Rows_addStretch 28 = .ok (.iload_n 3, 1) := by decide +kernel
theorem d_Rows_addStretch_29 : decode b_Rows_addStretch 29 = .ok (.iload 9, 2) := by decide +kernel
theorem d_Rows_addStretch_31 : decode b_Rows_addStretch 31 = .ok (.iadd, 1) := by decide +kernel
theorem d_Rows_addStretch_32 : decode b_Rows_addStretch 32 = .ok (.iaload, 1) := by decide +kernel
theorem d_Rows_addStretch_33 : decode b_Rows_addStretch 33 = .ok (.i2l, 1) := by decide +kernel
theorem d_Rows_addStretch_34 : decode b_Rows_addStretch 34 = .ok (.ldc2_w 9, 3) := by decide +kernel
theorem d_Rows_addStretch_37 : decode b_Rows_addStretch 37 = .ok (.land, 1) := by decide +kernel
theorem d_Rows_addStretch_38 : decode b_Rows_addStretch 38 = .ok (.ladd, 1) := by decide +kernel
theorem d_Rows_addStretch_39 : decode b_Rows_addStretch 39 = .ok (.ladd, 1) := by decide +kernel
theorem d_Rows_addStretch_40 : decode b_Rows_addStretch 40 = .ok (.lstore 7, 2) := by decide +kernel
theorem d_Rows_addStretch_42 : decode b_Rows_addStretch 42 = .ok (.aload_n 0, 1) := by decide +kernel
theorem d_Rows_addStretch_43 : decode b_Rows_addStretch 43 = .ok (.iload_n 1, 1) := by decide +kernel
theorem d_Rows_addStretch_44 : decode b_Rows_addStretch 44 = .ok (.iload 9, 2) := by decide +kernel
theorem d_Rows_addStretch_46 : decode b_Rows_addStretch 46 = .ok (.iadd, 1) := by decide +kernel
theorem d_Rows_addStretch_47 : decode b_Rows_addStretch 47 = .ok (.lload 7, 2) := by decide +kernel
theorem d_Rows_addStretch_49 : decode b_Rows_addStretch 49 = .ok (.l2i, 1) := by decide +kernel
theorem d_Rows_addStretch_50 : decode b_Rows_addStretch 50 = .ok (.iastore, 1) := by decide +kernel
theorem d_Rows_addStretch_51 : decode b_Rows_addStretch 51 = .ok (.lload 7, 2) := by decide +kernel
theorem d_Rows_addStretch_53 : decode b_Rows_addStretch 53 = .ok (.bipush 32, 2) := by decide +kernel
theorem d_Rows_addStretch_55 : decode b_Rows_addStretch 55 = .ok (.lushr, 1) := by decide +kernel
theorem d_Rows_addStretch_56 : decode b_Rows_addStretch 56 = .ok (.lstore 7, 2) := by decide +kernel
theorem d_Rows_addStretch_58 : decode b_Rows_addStretch 58 = .ok (.iinc 9 1, 3) := by decide +kernel
theorem d_Rows_addStretch_61 : decode b_Rows_addStretch 61 = .ok (.goto (-54), 3) := by decide +kernel
theorem d_Rows_addStretch_64 : decode b_Rows_addStretch 64 = .ok (.lload 7, 2) := by decide +kernel
theorem d_Rows_addStretch_66 : decode b_Rows_addStretch 66 = .ok (.lreturn, 1) := by decide +kernel
theorem d_Rows_guess_0 : decode b_Rows_guess 0 = .ok (.iload_n 3, 1) := by decide +kernel
theorem d_Rows_guess_1 : decode b_Rows_guess 1 = .ok (.i2l, 1) := by decide +kernel
theorem d_Rows_guess_2 : decode b_Rows_guess 2 = .ok (.ldc2_w 9, 3) := by decide +kernel
theorem d_Rows_guess_5 : decode b_Rows_guess 5 = .ok (.land, 1) := by decide +kernel
theorem d_Rows_guess_6 : decode b_Rows_guess 6 = .ok (.lstore 5, 2) := by decide +kernel
theorem d_Rows_guess_8 : decode b_Rows_guess 8 = .ok (.lload 5, 2) := by decide +kernel
theorem d_Rows_guess_10 : decode b_Rows_guess 10 = .ok (.lconst 0, 1) := by decide +kernel
theorem d_Rows_guess_11 : decode b_Rows_guess 11 = .ok (.lcmp, 1) := by decide +kernel
theorem d_Rows_guess_12 : decode b_Rows_guess 12 = .ok (.ifCond .ne 7, 3) := by decide +kernel
theorem d_Rows_guess_15 : decode b_Rows_guess 15 = .ok (.ldc2_w 9, 3) := by decide +kernel
theorem d_Rows_guess_18 : decode b_Rows_guess 18 = .ok (.lreturn, 1) := by decide +kernel
theorem d_Rows_guess_19 : decode b_Rows_guess 19 = .ok (.iload_n 0, 1) := by decide +kernel
theorem d_Rows_guess_20 : decode b_Rows_guess 20 = .ok (.i2l, 1) := by decide +kernel
theorem d_Rows_guess_21 : decode b_Rows_guess 21 = .ok (.bipush 32, 2) := by decide +kernel
theorem d_Rows_guess_23 : decode b_Rows_guess 23 = .ok (.lshl, 1) := by decide +kernel
theorem d_Rows_guess_24 : decode b_Rows_guess 24 = .ok (.iload_n 1, 1) := by decide +kernel
theorem d_Rows_guess_25 : decode b_Rows_guess 25 = .ok (.i2l, 1) := by decide +kernel
theorem d_Rows_guess_26 : decode b_Rows_guess 26 = .ok (.ldc2_w 9, 3) := by decide +kernel
theorem d_Rows_guess_29 : decode b_Rows_guess 29 = .ok (.land, 1) := by decide +kernel
theorem d_Rows_guess_30 : decode b_Rows_guess 30 = .ok (.lor, 1) := by decide +kernel
theorem d_Rows_guess_31 : decode b_Rows_guess 31 = .ok (.lstore 7, 2) := by decide +kernel
theorem d_Rows_guess_33 : decode b_Rows_guess 33 = .ok (.lload 7, 2) := by decide +kernel
theorem d_Rows_guess_35 : decode b_Rows_guess 35 = .ok (.iconst 1, 1) := by decide +kernel
theorem d_Rows_guess_36 : decode b_Rows_guess 36 = .ok (.lushr, 1) := by decide +kernel
theorem d_Rows_guess_37 : decode b_Rows_guess 37 = .ok (.lload 5, 2) := by decide +kernel
theorem d_Rows_guess_39 : decode b_Rows_guess 39 = .ok (.ldiv, 1) := by decide +kernel
theorem d_Rows_guess_40 : decode b_Rows_guess 40 = .ok (.iconst 1, 1) := by decide +kernel
theorem d_Rows_guess_41 : decode b_Rows_guess 41 = .ok (.lshl, 1) := by decide +kernel
theorem d_Rows_guess_42 : decode b_Rows_guess 42 = .ok (.lstore 9, 2) := by decide +kernel
theorem d_Rows_guess_44 : decode b_Rows_guess 44 = .ok (.lload 9, 2) := by decide +kernel
theorem d_Rows_guess_46 : decode b_Rows_guess 46 = .ok (.lload 7, 2) := by decide +kernel
theorem d_Rows_guess_48 : decode b_Rows_guess 48 = .ok (.lload 9, 2) := by decide +kernel
theorem d_Rows_guess_50 : decode b_Rows_guess 50 = .ok (.lload 5, 2) := by decide +kernel
theorem d_Rows_guess_52 : decode b_Rows_guess 52 = .ok (.lmul, 1) := by decide +kernel
theorem d_Rows_guess_53 : decode b_Rows_guess 53 = .ok (.lsub, 1) := by decide +kernel
theorem d_Rows_guess_54 : decode b_Rows_guess 54 = .ok (.lload 5, 2) := by decide +kernel
theorem d_Rows_guess_56 : decode b_Rows_guess 56 = .ok (.lcmp, 1) := by decide +kernel
theorem d_Rows_guess_57 : decode b_Rows_guess 57 = .ok (.ifCond .lt 7, 3) := by decide +kernel
theorem d_Rows_guess_60 : decode b_Rows_guess 60 = .ok (.lconst 1, 1) := by decide +kernel
theorem d_Rows_guess_61 : decode b_Rows_guess 61 = .ok (.goto 4, 3) := by decide +kernel
theorem d_Rows_guess_64 : decode b_Rows_guess 64 = .ok (.lconst 0, 1) := by decide +kernel
theorem d_Rows_guess_65 : decode b_Rows_guess 65 = .ok (.ladd, 1) := by decide +kernel
theorem d_Rows_guess_66 : decode b_Rows_guess 66 = .ok (.lstore 9, 2) := by decide +kernel
theorem d_Rows_guess_68 : decode b_Rows_guess 68 = .ok (.lload 9, 2) := by decide +kernel
theorem d_Rows_guess_70 : decode b_Rows_guess 70 = .ok (.ldc2_w 9, 3) := by decide +kernel
theorem d_Rows_guess_73 : decode b_Rows_guess 73 = .ok (.invokestatic 11, 3) := by decide +kernel
theorem d_Rows_guess_76 : decode b_Rows_guess 76 = .ok (.lstore 9, 2) := by decide +kernel
theorem d_Rows_guess_78 : decode b_Rows_guess 78 = .ok (.lload 7, 2) := by decide +kernel
theorem d_Rows_guess_80 : decode b_Rows_guess 80 = .ok (.lload 9, 2) := by decide +kernel
theorem d_Rows_guess_82 : decode b_Rows_guess 82 = .ok (.lload 5, 2) := by decide +kernel
theorem d_Rows_guess_84 : decode b_Rows_guess 84 = .ok (.lmul, 1) := by decide +kernel
theorem d_Rows_guess_85 : decode b_Rows_guess 85 = .ok (.lsub, 1) := by decide +kernel
theorem d_Rows_guess_86 : decode b_Rows_guess 86 = .ok (.lstore 11, 2) := by decide +kernel
theorem d_Rows_guess_88 : decode b_Rows_guess 88 = .ok (.iconst 0, 1) := by decide +kernel
theorem d_Rows_guess_89 : decode b_Rows_guess 89 = .ok (.istore 13, 2) := by decide +kernel
theorem d_Rows_guess_91 : decode b_Rows_guess 91 = .ok (.iload 13, 2) := by decide +kernel
theorem d_Rows_guess_93 : decode b_Rows_guess 93 = .ok (.iconst 2, 1) := by decide +kernel
theorem d_Rows_guess_94 : decode b_Rows_guess 94 = .ok (.if_icmp .ge 62, 3) := by decide +kernel
theorem d_Rows_guess_97 : decode b_Rows_guess 97 = .ok (.lload 11, 2) := by decide +kernel
theorem d_Rows_guess_99 : decode b_Rows_guess 99 = .ok (.ldc2_w 9, 3) := by decide +kernel
theorem d_Rows_guess_102 : decode b_Rows_guess 102 = .ok (.lcmp, 1) := by decide +kernel
theorem d_Rows_guess_103 : decode b_Rows_guess 103 = .ok (.ifCond .gt 53, 3) := by decide +kernel
theorem d_Rows_guess_106 : decode b_Rows_guess 106 = .ok (.lload 9, 2) := by decide +kernel
theorem d_Rows_guess_108 : decode b_Rows_guess 108 = .ok (.iload 4, 2) := by decide +kernel
theorem d_Rows_guess_110 : decode b_Rows_guess 110 = .ok (.i2l, 1) := by decide +kernel
theorem d_Rows_guess_111 : decode b_Rows_guess 111 = .ok (.ldc2_w 9, 3) := by decide +kernel
theorem d_Rows_guess_114 : decode b_Rows_guess 114 = .ok (.land, 1) := by decide +kernel
theorem d_Rows_guess_115 : decode b_Rows_guess 115 = .ok (.lmul, 1) := by decide +kernel
theorem d_Rows_guess_116 : decode b_Rows_guess 116 = .ok (.lload 11, 2) := by decide +kernel
theorem d_Rows_guess_118 : decode b_Rows_guess 118 = .ok (.bipush 32, 2) := by decide +kernel
theorem d_Rows_guess_120 : decode b_Rows_guess 120 = .ok (.lshl, 1) := by decide +kernel
theorem d_Rows_guess_121 : decode b_Rows_guess 121 = .ok (.iload_n 2, 1) := by decide +kernel
theorem d_Rows_guess_122 : decode b_Rows_guess 122 = .ok (.i2l, 1) := by decide +kernel
theorem d_Rows_guess_123 : decode b_Rows_guess 123 = .ok (.ldc2_w 9, 3) := by decide +kernel
theorem d_Rows_guess_126 : decode b_Rows_guess 126 = .ok (.land, 1) := by decide +kernel
theorem d_Rows_guess_127 : decode b_Rows_guess 127 = .ok (.lor, 1) := by decide +kernel
theorem d_Rows_guess_128 : decode b_Rows_guess 128 = .ok (.invokestatic 17, 3) := by decide +kernel
theorem d_Rows_guess_131 : decode b_Rows_guess 131 = .ok (.ifCond .ne 6, 3) := by decide +kernel
theorem d_Rows_guess_134 : decode b_Rows_guess 134 = .ok (.goto 22, 3) := by decide +kernel
theorem d_Rows_guess_137 : decode b_Rows_guess 137 = .ok (.lload 9, 2) := by decide +kernel
theorem d_Rows_guess_139 : decode b_Rows_guess 139 = .ok (.lconst 1, 1) := by decide +kernel
theorem d_Rows_guess_140 : decode b_Rows_guess 140 = .ok (.lsub, 1) := by decide +kernel
theorem d_Rows_guess_141 : decode b_Rows_guess 141 = .ok (.lstore 9, 2) := by decide +kernel
theorem d_Rows_guess_143 : decode b_Rows_guess 143 = .ok (.lload 11, 2) := by decide +kernel
theorem d_Rows_guess_145 : decode b_Rows_guess 145 = .ok (.lload 5, 2) := by decide +kernel
theorem d_Rows_guess_147 : decode b_Rows_guess 147 = .ok (.ladd, 1) := by decide +kernel
theorem d_Rows_guess_148 : decode b_Rows_guess 148 = .ok (.lstore 11, 2) := by decide +kernel
theorem d_Rows_guess_150 : decode b_Rows_guess 150 = .ok (.iinc 13 1, 3) := by decide +kernel
theorem d_Rows_guess_153 : decode b_Rows_guess 153 = .ok (.goto (-62), 3) := by decide +kernel
theorem d_Rows_guess_156 : decode b_Rows_guess 156 = .ok (.lload 9, 2) := by decide +kernel
theorem d_Rows_guess_158 : decode b_Rows_guess 158 = .ok (.lreturn, 1) := by decide +kernel
theorem d_Rows_halved_0 : decode b_Rows_halved 0 = .ok (.iload_n 0, 1) := by decide +kernel
theorem d_Rows_halved_1 : decode b_Rows_halved 1 = .ok (.bipush 31, 2) := by decide +kernel
theorem d_Rows_halved_3 : decode b_Rows_halved 3 = .ok (.ishl, 1) := by decide +kernel
theorem d_Rows_halved_4 : decode b_Rows_halved 4 = .ok (.iload_n 1, 1) := by decide +kernel
theorem d_Rows_halved_5 : decode b_Rows_halved 5 = .ok (.iconst 1, 1) := by decide +kernel
theorem d_Rows_halved_6 : decode b_Rows_halved 6 = .ok (.iushr, 1) := by decide +kernel
theorem d_Rows_halved_7 : decode b_Rows_halved 7 = .ok (.ior, 1) := by decide +kernel
theorem d_Rows_halved_8 : decode b_Rows_halved 8 = .ok (.ireturn, 1) := by decide +kernel
theorem d_Rows_isAbove_0 : decode b_Rows_isAbove 0 = .ok (.lload_n 0, 1) := by decide +kernel
theorem d_Rows_isAbove_1 : decode b_Rows_isAbove 1 = .ok (.ldc2_w 23, 3) := by decide +kernel
theorem d_Rows_isAbove_4 : decode b_Rows_isAbove 4 = .ok (.lxor, 1) := by decide +kernel
theorem d_Rows_isAbove_5 : decode b_Rows_isAbove 5 = .ok (.lload_n 2, 1) := by decide +kernel
theorem d_Rows_isAbove_6 : decode b_Rows_isAbove 6 = .ok (.ldc2_w 23, 3) := by decide +kernel
theorem d_Rows_isAbove_9 : decode b_Rows_isAbove 9 = .ok (.lxor, 1) := by decide +kernel
theorem d_Rows_isAbove_10 : decode b_Rows_isAbove 10 = .ok (.lcmp, 1) := by decide +kernel
theorem d_Rows_isAbove_11 : decode b_Rows_isAbove 11 = .ok (.ifCond .le 7, 3) := by decide +kernel
theorem d_Rows_isAbove_14 : decode b_Rows_isAbove 14 = .ok (.iconst 1, 1) := by decide +kernel
theorem d_Rows_isAbove_15 : decode b_Rows_isAbove 15 = .ok (.goto 4, 3) := by decide +kernel
theorem d_Rows_isAbove_18 : decode b_Rows_isAbove 18 = .ok (.iconst 0, 1) := by decide +kernel
theorem d_Rows_isAbove_19 : decode b_Rows_isAbove 19 = .ok (.ireturn, 1) := by decide +kernel
theorem d_Rows_takeMultiple_0 : decode b_Rows_takeMultiple 0 = .ok (.lconst 0, 1) := by decide +kernel
theorem d_Rows_takeMultiple_1 : decode b_Rows_takeMultiple 1 = .ok (.lstore 7, 2) := by decide +kernel
theorem d_Rows_takeMultiple_3 : decode b_Rows_takeMultiple 3 = .ok (.iconst 0, 1) := by decide +kernel
theorem d_Rows_takeMultiple_4 : decode b_Rows_takeMultiple 4 = .ok (.istore 9, 2) := by decide +kernel
theorem d_Rows_takeMultiple_6 : decode b_Rows_takeMultiple 6 = .ok (.iload 9, 2) := by decide +kernel
theorem d_Rows_takeMultiple_8 : decode b_Rows_takeMultiple 8 = .ok (.iload 4, 2) := by decide +kernel
theorem d_Rows_takeMultiple_10 : decode b_Rows_takeMultiple 10 = .ok (.if_icmp .ge 70, 3) := by decide +kernel
theorem d_Rows_takeMultiple_13 : decode b_Rows_takeMultiple 13 = .ok (.lload 7, 2) := by decide +kernel
theorem d_Rows_takeMultiple_15 : decode b_Rows_takeMultiple 15 = .ok (.lload 5, 2) := by decide +kernel
theorem d_Rows_takeMultiple_17 : decode b_Rows_takeMultiple 17 = .ok (.aload_n 2, 1) := by decide +kernel
theorem d_Rows_takeMultiple_18 : decode b_Rows_takeMultiple 18 = .ok (.iload_n 3, 1) := by decide +kernel
theorem d_Rows_takeMultiple_19 : decode b_Rows_takeMultiple 19 = .ok (.iload 9, 2) := by decide +kernel
theorem d_Rows_takeMultiple_21 : decode b_Rows_takeMultiple 21 = .ok (.iadd, 1) := by decide +kernel
theorem d_Rows_takeMultiple_22 : decode b_Rows_takeMultiple 22 = .ok (.iaload, 1) := by decide +kernel
theorem d_Rows_takeMultiple_23 : decode b_Rows_takeMultiple 23 = .ok (.i2l, 1) := by decide +kernel
theorem d_Rows_takeMultiple_24 : decode b_Rows_takeMultiple 24 = .ok (.ldc2_w 9, 3) := by decide +kernel
theorem d_Rows_takeMultiple_27 : decode b_Rows_takeMultiple 27 = .ok (.land, 1) := by decide +kernel
theorem d_Rows_takeMultiple_28 : decode b_Rows_takeMultiple 28 = .ok (.lmul, 1) := by decide +kernel
theorem d_Rows_takeMultiple_29 : decode b_Rows_takeMultiple 29 = .ok (.ladd, 1) := by decide +kernel
theorem d_Rows_takeMultiple_30 : decode b_Rows_takeMultiple 30 = .ok (.lstore 7, 2) := by decide +kernel
theorem d_Rows_takeMultiple_32 : decode b_Rows_takeMultiple 32 = .ok (.aload_n 0, 1) := by decide +kernel
theorem d_Rows_takeMultiple_33 : decode b_Rows_takeMultiple 33 = .ok (.iload_n 1, 1) := by decide +kernel
theorem d_Rows_takeMultiple_34 : decode b_Rows_takeMultiple 34 = .ok (.iload 9, 2) := by decide +kernel
theorem d_Rows_takeMultiple_36 : decode b_Rows_takeMultiple 36 = .ok (.iadd, 1) := by decide +kernel
theorem d_Rows_takeMultiple_37 : decode b_Rows_takeMultiple 37 = .ok (.iaload, 1) := by decide +kernel
theorem d_Rows_takeMultiple_38 : decode b_Rows_takeMultiple 38 = .ok (.i2l, 1) := by decide +kernel
theorem d_Rows_takeMultiple_39 : decode b_Rows_takeMultiple 39 = .ok (.ldc2_w 9, 3) := by decide +kernel
theorem d_Rows_takeMultiple_42 : decode b_Rows_takeMultiple 42 = .ok (.land, 1) := by decide +kernel
theorem d_Rows_takeMultiple_43 : decode b_Rows_takeMultiple 43 = .ok (.lload 7, 2) := by decide +kernel
theorem d_Rows_takeMultiple_45 : decode b_Rows_takeMultiple 45 = .ok (.ldc2_w 9, 3) := by decide +kernel
theorem d_Rows_takeMultiple_48 : decode b_Rows_takeMultiple 48 = .ok (.land, 1) := by decide +kernel
theorem d_Rows_takeMultiple_49 : decode b_Rows_takeMultiple 49 = .ok (.lsub, 1) := by decide +kernel
theorem d_Rows_takeMultiple_50 : decode b_Rows_takeMultiple 50 = .ok (.lstore 10, 2) := by decide +kernel
theorem d_Rows_takeMultiple_52 : decode b_Rows_takeMultiple 52 = .ok (.aload_n 0, 1) := by decide +kernel
theorem d_Rows_takeMultiple_53 : decode b_Rows_takeMultiple 53 = .ok (.iload_n 1, 1) := by decide +kernel
theorem d_Rows_takeMultiple_54 : decode b_Rows_takeMultiple 54 = .ok (.iload 9, 2) := by decide +kernel
theorem d_Rows_takeMultiple_56 : decode b_Rows_takeMultiple 56 = .ok (.iadd, 1) := by decide +kernel
theorem d_Rows_takeMultiple_57 : decode b_Rows_takeMultiple 57 = .ok (.lload 10, 2) := by decide +kernel
theorem d_Rows_takeMultiple_59 : decode b_Rows_takeMultiple 59 = .ok (.l2i, 1) := by decide +kernel
theorem d_Rows_takeMultiple_60 : decode b_Rows_takeMultiple 60 = .ok (.iastore, 1) := by decide +kernel
theorem d_Rows_takeMultiple_61 : decode b_Rows_takeMultiple 61 = .ok (.lload 7, 2) := by decide +kernel
theorem d_Rows_takeMultiple_63 : decode b_Rows_takeMultiple 63 = .ok (.bipush 32, 2) := by decide +kernel
theorem d_Rows_takeMultiple_65 : decode b_Rows_takeMultiple 65 = .ok (.lushr, 1) := by decide +kernel
theorem d_Rows_takeMultiple_66 : decode b_Rows_takeMultiple 66 = .ok (.lload 10, 2) := by decide +kernel
theorem d_Rows_takeMultiple_68 : decode b_Rows_takeMultiple 68 = .ok (.bipush 63, 2) := by decide +kernel
theorem d_Rows_takeMultiple_70 : decode b_Rows_takeMultiple 70 = .ok (.lushr, 1) := by decide +kernel
theorem d_Rows_takeMultiple_71 : decode b_Rows_takeMultiple 71 = .ok (.ladd, 1) := by decide +kernel
theorem d_Rows_takeMultiple_72 : decode b_Rows_takeMultiple 72 = .ok (.lstore 7, 2) := by decide +kernel
theorem d_Rows_takeMultiple_74 : decode b_Rows_takeMultiple 74 = .ok (.iinc 9 1, 3) := by decide +kernel
theorem d_Rows_takeMultiple_77 : decode b_Rows_takeMultiple 77 = .ok (.goto (-71), 3) := by decide +kernel
theorem d_Rows_takeMultiple_80 : decode b_Rows_takeMultiple 80 = .ok (.lload 7, 2) := by decide +kernel
theorem d_Rows_takeMultiple_82 : decode b_Rows_takeMultiple 82 = .ok (.lreturn, 1) := by decide +kernel
