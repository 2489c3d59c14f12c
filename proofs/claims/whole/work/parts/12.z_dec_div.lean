theorem d_Div_find_0 : decode b_Div_find 0 = .ok (.aload_n 1, 1) := by decide +kernel
theorem d_Div_find_1 : decode b_Div_find 1 = .ok (.getfield 9, 3) := by decide +kernel
theorem d_Div_find_4 : decode b_Div_find 4 = .ok (.istore 5, 2) := by decide +kernel
theorem d_Div_find_6 : decode b_Div_find 6 = .ok (.iconst 0, 1) := by decide +kernel
theorem d_Div_find_7 : decode b_Div_find 7 = .ok (.aload_n 0, 1) := by decide +kernel
theorem d_Div_find_8 : decode b_Div_find 8 = .ok (.getfield 9, 3) := by decide +kernel
theorem d_Div_find_11 : decode b_Div_find 11 = .ok (.iload 5, 2) := by decide +kernel
theorem d_Div_find_13 : decode b_Div_find 13 = .ok (.isub, 1) := by decide +kernel
theorem d_Div_find_14 : decode b_Div_find 14 = .ok (.iconst 1, 1) := by decide +kernel
theorem d_Div_find_15 : decode b_Div_find 15 = .ok (.iadd, 1) := by decide +kernel
theorem d_Div_find_16 : decode b_Div_find 16 = .ok (.invokestatic 15, 3) := by decide +kernel
theorem d_Div_find_19 : decode b_Div_find 19 = .ok (.istore 6, 2) := by decide +kernel
theorem d_Div_find_21 : decode b_Div_find 21 = .ok (.bipush 32, 2) := by decide +kernel
theorem d_Div_find_23 : decode b_Div_find 23 = .ok (.iload 5, 2) := by decide +kernel
theorem d_Div_find_25 : decode b_Div_find 25 = .ok (.imul, 1) := by decide +kernel
theorem d_Div_find_26 : decode b_Div_find 26 = .ok (.aload_n 1, 1) := by decide +kernel
theorem d_Div_find_27 : decode b_Div_find 27 = .ok (.invokevirtual 21, 3) := by decide +kernel
theorem d_Div_find_30 : decode b_Div_find 30 = .ok (.isub, 1) := by decide +kernel
theorem d_Div_find_31 : decode b_Div_find 31 = .ok (.istore 7, 2) := by decide +kernel
theorem d_Div_find_33 : decode b_Div_find 33 = .ok (.aload_n 3, 1) := by decide +kernel
theorem d_Div_find_34 : decode b_Div_find 34 = .ok (.aload_n 0, 1) := by decide +kernel
theorem d_Div_find_35 : decode b_Div_find 35 = .ok (.iload 7, 2) := by decide +kernel
theorem d_Div_find_37 : decode b_Div_find 37 = .ok (.invokevirtual 25, 3) := by decide +kernel
theorem d_Div_find_40 : decode b_Div_find 40 = .ok (.aload 4, 2) := by decide +kernel
theorem d_Div_find_42 : decode b_Div_find 42 = .ok (.aload_n 1, 1) := by decide +kernel
theorem d_Div_find_43 : decode b_Div_find 43 = .ok (.iload 7, 2) := by decide +kernel
theorem d_Div_find_45 : decode b_Div_find 45 = .ok (.invokevirtual 25, 3) := by decide +kernel
theorem d_Div_find_48 : decode b_Div_find 48 = .ok (.aload_n 2, 1) := by decide +kernel
theorem d_Div_find_49 : decode b_Div_find 49 = .ok (.invokevirtual 29, 3) := by decide +kernel
theorem d_Div_find_52 : decode b_Div_find 52 = .ok (.iload 6, 2) := by decide +kernel
theorem d_Div_find_54 : decode b_Div_find 54 = .ok (.iconst 1, 1) := by decide +kernel
theorem d_Div_find_55 : decode b_Div_find 55 = .ok (.isub, 1) := by decide +kernel
theorem d_Div_find_56 : decode b_Div_find 56 = .ok (.istore 8, 2) := by decide +kernel
theorem d_Div_find_58 : decode b_Div_find 58 = .ok (.iload 8, 2) := by decide +kernel
theorem d_Div_find_60 : decode b_Div_find 60 = .ok (.ifCond .lt 32, 3) := by decide +kernel
theorem d_Div_find_63 : decode b_Div_find 63 = .ok (.aload_n 2, 1) := by decide +kernel
theorem d_Div_find_64 : decode b_Div_find 64 = .ok (.getfield 32, 3) := by decide +kernel
theorem d_Div_find_67 : decode b_Div_find 67 = .ok (.iload 8, 2) := by decide +kernel
theorem d_Div_find_69 : decode b_Div_find 69 = .ok (.aload_n 3, 1) := by decide +kernel
theorem d_Div_find_70 : decode b_Div_find 70 = .ok (.getfield 32, 3) := by decide +kernel
theorem d_Div_find_73 : decode b_Div_find 73 = .ok (.aload 4, 2) := by decide +kernel
theorem d_Div_find_75 : decode b_Div_find 75 = .ok (.getfield 32, 3) := by decide +kernel
theorem d_Div_find_78 : decode b_Div_find 78 = .ok (.iload 8, 2) := by decide +kernel
theorem d_Div_find_80 : decode b_Div_find 80 = .ok (.iload 5, 2) := by decide +kernel
theorem d_Div_find_82 : decode b_Div_find 82 = .ok (.invokestatic 36, 3) := by decide +kernel
theorem d_Div_find_85 : decode b_Div_find 85 = .ok (.iastore, 1) := by decide +kernel
theorem d_Div_find_86 : decode b_Div_find 86 = .ok (.iinc 8 (-1), 3) := by decide +kernel
theorem d_Div_find_89 : decode b_Div_find 89 = .ok (.goto (-31), 3) := by decide +kernel
theorem d_Div_find_92 : decode b_Div_find 92 = .ok (.aload_n 2, 1) := by decide +kernel
theorem d_Div_find_93 : decode b_Div_find 93 = .ok (.iload 6, 2) := by decide +kernel
theorem d_Div_find_95 : decode b_Div_find 95 = .ok (.invokevirtual 42, 3) := by decide +kernel
theorem d_Div_find_98 : decode b_Div_find 98 = .ok (.aload_n 3, 1) := by decide +kernel
theorem d_Div_find_99 : decode b_Div_find 99 = .ok (.iload 5, 2) := by decide +kernel
theorem d_Div_find_101 : decode b_Div_find 101 = .ok (.invokevirtual 42, 3) := by decide +kernel
theorem d_Div_find_104 : decode b_Div_find 104 = .ok (.aload_n 3, 1) := by decide +kernel
theorem d_Div_find_105 : decode b_Div_find 105 = .ok (.aload_n 3, 1) := by decide +kernel
theorem d_Div_find_106 : decode b_Div_find 106 = .ok (.iload 7, 2) := by decide +kernel
theorem d_Div_find_108 : decode b_Div_find 108 = .ok (.invokevirtual 46, 3) := by decide +kernel
theorem d_Div_find_111 : decode b_Div_find 111 = .ok (.return_, 1) := by decide +kernel
theorem d_Div_nextWord_0 : decode b_Div_nextWord 0 = .ok (.iload_n 2, 1) := by decide +kernel
theorem d_Div_nextWord_1 : decode b_Div_nextWord 1 = .ok (.iload_n 3, 1) := by decide +kernel
theorem d_Div_nextWord_2 : decode b_Div_nextWord 2 = .ok (.iadd, 1) := by decide +kernel
theorem d_Div_nextWord_3 : decode b_Div_nextWord 3 = .ok (.istore 4, 2) := by decide +kernel
theorem d_Div_nextWord_5 : decode b_Div_nextWord 5 = .ok (.iload_n 3, 1) := by decide +kernel
theorem d_Div_nextWord_6 : decode b_Div_nextWord 6 = .ok (.iconst 1, 1) := by decide +kernel
theorem d_Div_nextWord_7 : decode b_Div_nextWord 7 = .ok (.if_icmp .le 12, 3) := by decide +kernel
theorem d_Div_nextWord_10 : decode b_Div_nextWord 10 = .ok (.aload_n 0, 1) := by decide +kernel
theorem d_Div_nextWord_11 : decode b_Div_nextWord 11 = .ok (.iload 4, 2) := by decide +kernel
theorem d_Div_nextWord_13 : decode b_Div_nextWord 13 = .ok (.iconst 2, 1) := by decide +kernel
theorem d_Div_nextWord_14 : decode b_Div_nextWord 14 = .ok (.isub, 1) := by decide +kernel
theorem d_Div_nextWord_15 : decode b_Div_nextWord 15 = .ok (.iaload, 1) := by decide +kernel
theorem d_Div_nextWord_16 : decode b_Div_nextWord 16 = .ok (.goto 4, 3) := by decide +kernel
theorem d_Div_nextWord_19 : decode b_Div_nextWord 19 = .ok (.iconst 0, 1) := by decide +kernel
theorem d_Div_nextWord_20 : decode b_Div_nextWord 20 = .ok (.istore 5, 2) := by decide +kernel
theorem d_Div_nextWord_22 : decode b_Div_nextWord 22 = .ok (.iload_n 3, 1) := by decide +kernel
theorem d_Div_nextWord_23 : decode b_Div_nextWord 23 = .ok (.iconst 1, 1) := by decide +kernel
theorem d_Div_nextWord_24 : decode b_Div_nextWord 24 = .ok (.if_icmp .le 11, 3) := by decide +kernel
theorem d_Div_nextWord_27 : decode b_Div_nextWord 27 = .ok (.aload_n 1, 1) := by decide +kernel
theorem d_Div_nextWord_28 : decode b_Div_nextWord 28 = .ok (.iload_n 3, 1) := by decide +kernel
theorem d_Div_nextWord_29 : decode b_Div_nextWord 29 = .ok (.iconst 2, 1) := by decide +kernel
theorem d_Div_nextWord_30 : decode b_Div_nextWord 30 = .ok (.isub, 1) := by decide +kernel
theorem d_Div_nextWord_31 : decode b_Div_nextWord 31 = .ok (.iaload, 1) := by decide +kernel
theorem d_Div_nextWord_32 : decode b_Div_nextWord 32 = .ok (.goto 4, 3) := by decide +kernel
theorem d_Div_nextWord_35 : decode b_Div_nextWord 35 = .ok (.iconst 0, 1) := by decide +kernel
theorem d_Div_nextWord_36 : decode b_Div_nextWord 36 = .ok (.istore 6, 2) := by decide +kernel
theorem d_Div_nextWord_38 : decode b_Div_nextWord 38 = .ok (.aload_n 0, 1) := by decide +kernel
theorem d_Div_nextWord_39 : decode b_Div_nextWord 39 = .ok (.iload 4, 2) := by decide +kernel
theorem d_Div_nextWord_41 : decode b_Div_nextWord 41 = .ok (.iaload, 1) := by decide +kernel
theorem d_Div_nextWord_42 : decode b_Div_nextWord 42 = .ok (.aload_n 0, 1) := by decide +kernel
theorem d_Div_nextWord_43 : decode b_Div_nextWord 43 = .ok (.iload 4, 2) := by decide +kernel
theorem d_Div_nextWord_45 : decode b_Div_nextWord 45 = .ok (.iconst 1, 1) := by decide +kernel
theorem d_Div_nextWord_46 : decode b_Div_nextWord 46 = .ok (.isub, 1) := by decide +kernel
theorem d_Div_nextWord_47 : decode b_Div_nextWord 47 = .ok (.iaload, 1) := by decide +kernel
theorem d_Div_nextWord_48 : decode b_Div_nextWord 48 = .ok (.iload 5, 2) := by decide +kernel
theorem d_Div_nextWord_50 : decode b_Div_nextWord 50 = .ok (.aload_n 1, 1) := by decide +kernel
theorem d_Div_nextWord_51 : decode b_Div_nextWord 51 = .ok (.iload_n 3, 1) := by decide +kernel
theorem d_Div_nextWord_52 : decode b_Div_nextWord 52 = .ok (.iconst 1, 1) := by decide +kernel
theorem d_Div_nextWord_53 : decode b_Div_nextWord 53 = .ok (.isub, 1) := by decide +kernel
theorem d_Div_nextWord_54 : decode b_Div_nextWord 54 = .ok (.iaload, 1) := by decide +kernel
theorem d_Div_nextWord_55 : decode b_Div_nextWord 55 = .ok (.iload 6, 2) := by decide +kernel
theorem d_Div_nextWord_57 : decode b_Div_nextWord 57 = .ok (.invokestatic 49, 3) := by decide +kernel
theorem d_Div_nextWord_60 : decode b_Div_nextWord 60 = .ok (.lstore 7, 2) := by decide +kernel
theorem d_Div_nextWord_62 : decode b_Div_nextWord 62 = .ok (.aload_n 0, 1) := by decide +kernel
theorem d_Div_nextWord_63 : decode b_Div_nextWord 63 = .ok (.iload 4, 2) := by decide +kernel
theorem d_Div_nextWord_65 : decode b_Div_nextWord 65 = .ok (.iaload, 1) := by decide +kernel
theorem d_Div_nextWord_66 : decode b_Div_nextWord 66 = .ok (.i2l, 1) := by decide +kernel
theorem d_Div_nextWord_67 : decode b_Div_nextWord 67 = .ok (.ldc2_w 55, 3) := by decide +kernel
theorem d_Div_nextWord_70 : decode b_Div_nextWord 70 = .ok (.land, 1) := by decide +kernel
theorem d_Div_nextWord_71 : decode b_Div_nextWord 71 = .ok (.aload_n 0, 1) := by decide +kernel
theorem d_Div_nextWord_72 : decode b_Div_nextWord 72 = .ok (.iload_n 2, 1) := by decide +kernel
theorem d_Div_nextWord_73 : decode b_Div_nextWord 73 = .ok (.aload_n 1, 1) := by decide +kernel
theorem d_Div_nextWord_74 : decode b_Div_nextWord 74 = .ok (.iconst 0, 1) := by decide +kernel
theorem d_Div_nextWord_75 : decode b_Div_nextWord 75 = .ok (.iload_n 3, 1) := by decide +kernel
theorem d_Div_nextWord_76 : decode b_Div_nextWord 76 = .ok (.lload 7, 2) := by decide +kernel
theorem d_Div_nextWord_78 : decode b_Div_nextWord 78 = .ok (.invokestatic 57, 3) := by decide +kernel
theorem d_Div_nextWord_81 : decode b_Div_nextWord 81 = .ok (.lsub, 1) := by decide +kernel
theorem d_Div_nextWord_82 : decode b_Div_nextWord 82 = .ok (.lstore 9, 2) := by decide +kernel
theorem d_Div_nextWord_84 : decode b_Div_nextWord 84 = .ok (.lload 9, 2) := by decide +kernel
theorem d_Div_nextWord_86 : decode b_Div_nextWord 86 = .ok (.lconst 0, 1) := by decide +kernel
theorem d_Div_nextWord_87 : decode b_Div_nextWord 87 = .ok (.lcmp, 1) := by decide +kernel
theorem d_Div_nextWord_88 : decode b_Div_nextWord 88 = .ok (.ifCond .ge 23, 3) := by decide +kernel
theorem d_Div_nextWord_91 : decode b_Div_nextWord 91 = .ok (.lload 7, 2) := by decide +kernel
theorem d_Div_nextWord_93 : decode b_Div_nextWord 93 = .ok (.lconst 1, 1) := by decide +kernel
theorem d_Div_nextWord_94 : decode b_Div_nextWord 94 = .ok (.lsub, 1) := by decide +kernel
theorem d_Div_nextWord_95 : decode b_Div_nextWord 95 = .ok (.lstore 7, 2) := by decide +kernel
theorem d_Div_nextWord_97 : decode b_Div_nextWord 97 = .ok (.lload 9, 2) := by decide +kernel
theorem d_Div_nextWord_99 : decode b_Div_nextWord 99 = .ok (.aload_n 0, 1) := by decide +kernel
theorem d_Div_nextWord_100 : decode b_Div_nextWord 100 = .ok (.iload_n 2, 1) := by decide +kernel
theorem d_Div_nextWord_101 : decode b_Div_nextWord 101 = .ok (.aload_n 1, 1) := by decide +kernel
theorem d_Div_nextWord_102 : decode b_Div_nextWord 102 = .ok (.iconst 0, 1) := by decide +kernel
theorem d_Div_nextWord_103 : decode b_Div_nextWord 103 = .ok (.iload_n 3, 1) := by decide +kernel
theorem d_Div_nextWord_104 : decode b_Div_nextWord 104 = .ok (.lconst 0, 1) := by decide +kernel
theorem d_Div_nextWord_105 : decode b_Div_nextWord 105 = .ok (.invokestatic 61, 3) := by decide +kernel
theorem d_Div_nextWord_108 : decode b_Div_nextWord 108 = .ok (.ladd, 1) := by decide +kernel
theorem d_Div_nextWord_109 : decode b_Div_nextWord 109 = .ok (.lstore 9, 2) := by decide +kernel
theorem d_Div_nextWord_111 : decode b_Div_nextWord 111 = .ok (.aload_n 0, 1) := by decide +kernel
theorem d_Div_nextWord_112 : decode b_Div_nextWord 112 = .ok (.iload 4, 2) := by decide +kernel
theorem d_Div_nextWord_114 : decode b_Div_nextWord 114 = .ok (.lload 9, 2) := by decide +kernel
theorem d_Div_nextWord_116 : decode b_Div_nextWord 116 = .ok (.l2i, 1) := by decide +kernel
theorem d_Div_nextWord_117 : decode b_Div_nextWord 117 = .ok (.iastore, 1) := by decide +kernel
theorem d_Div_nextWord_118 : decode b_Div_nextWord 118 = .ok (.lload 7, 2) := by decide +kernel
theorem d_Div_nextWord_120 : decode b_Div_nextWord 120 = .ok (.l2i, 1) := by decide +kernel
theorem d_Div_nextWord_121 : decode b_Div_nextWord 121 = .ok (.ireturn, 1) := by decide +kernel
