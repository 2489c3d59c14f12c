theorem d_Root_find_0 : decode b_Root_find 0 = .ok (.aload_n 0, 1) := by decide +kernel
theorem d_Root_find_1 : decode b_Root_find 1 = .ok (.getfield 9, 3) := by decide +kernel
theorem d_Root_find_4 : decode b_Root_find 4 = .ok (.iconst 1, 1) := by decide +kernel
theorem d_Root_find_5 : decode b_Root_find 5 = .ok (.iadd, 1) := by decide +kernel
theorem d_Root_find_6 : decode b_Root_find 6 = .ok (.iconst 2, 1) := by decide +kernel
theorem d_Root_find_7 : decode b_Root_find 7 = .ok (.idiv, 1) := by decide +kernel
theorem d_Root_find_8 : decode b_Root_find 8 = .ok (.istore 4, 2) := by decide +kernel
theorem d_Root_find_10 : decode b_Root_find 10 = .ok (.aload_n 1, 1) := by decide +kernel
theorem d_Root_find_11 : decode b_Root_find 11 = .ok (.invokevirtual 15, 3) := by decide +kernel
theorem d_Root_find_14 : decode b_Root_find 14 = .ok (.aload_n 2, 1) := by decide +kernel
theorem d_Root_find_15 : decode b_Root_find 15 = .ok (.invokevirtual 15, 3) := by decide +kernel
theorem d_Root_find_18 : decode b_Root_find 18 = .ok (.aload_n 3, 1) := by decide +kernel
theorem d_Root_find_19 : decode b_Root_find 19 = .ok (.invokevirtual 15, 3) := by decide +kernel
theorem d_Root_find_22 : decode b_Root_find 22 = .ok (.iload 4, 2) := by decide +kernel
theorem d_Root_find_24 : decode b_Root_find 24 = .ok (.ifCond .ne 4, 3) := by decide +kernel
theorem d_Root_find_27 : decode b_Root_find 27 = .ok (.return_, 1) := by decide +kernel
theorem d_Root_find_28 : decode b_Root_find 28 = .ok (.bipush 64, 2) := by decide +kernel
theorem d_Root_find_30 : decode b_Root_find 30 = .ok (.iload 4, 2) := by decide +kernel
theorem d_Root_find_32 : decode b_Root_find 32 = .ok (.imul, 1) := by decide +kernel
theorem d_Root_find_33 : decode b_Root_find 33 = .ok (.aload_n 0, 1) := by decide +kernel
theorem d_Root_find_34 : decode b_Root_find 34 = .ok (.invokevirtual 18, 3) := by decide +kernel
theorem d_Root_find_37 : decode b_Root_find 37 = .ok (.isub, 1) := by decide +kernel
theorem d_Root_find_38 : decode b_Root_find 38 = .ok (.iconst 2, 1) := by decide +kernel
theorem d_Root_find_39 : decode b_Root_find 39 = .ok (.idiv, 1) := by decide +kernel
theorem d_Root_find_40 : decode b_Root_find 40 = .ok (.istore 5, 2) := by decide +kernel
theorem d_Root_find_42 : decode b_Root_find 42 = .ok (.aload_n 2, 1) := by decide +kernel
theorem d_Root_find_43 : decode b_Root_find 43 = .ok (.aload_n 0, 1) := by decide +kernel
theorem d_Root_find_44 : decode b_Root_find 44 = .ok (.iconst 2, 1) := by decide +kernel
theorem d_Root_find_45 : decode b_Root_find 45 = .ok (.iload 5, 2) := by decide +kernel
theorem d_Root_find_47 : decode b_Root_find 47 = .ok (.imul, 1) := by decide +kernel
theorem d_Root_find_48 : decode b_Root_find 48 = .ok (.invokevirtual 22, 3) := by decide +kernel
theorem d_Root_find_51 : decode b_Root_find 51 = .ok (.aload_n 2, 1) := by decide +kernel
theorem d_Root_find_52 : decode b_Root_find 52 = .ok (.getfield 26, 3) := by decide +kernel
theorem d_Root_find_55 : decode b_Root_find 55 = .ok (.aload_n 3, 1) := by decide +kernel
theorem d_Root_find_56 : decode b_Root_find 56 = .ok (.getfield 26, 3) := by decide +kernel
theorem d_Root_find_59 : decode b_Root_find 59 = .ok (.iload 4, 2) := by decide +kernel
theorem d_Root_find_61 : decode b_Root_find 61 = .ok (.invokestatic 30, 3) := by decide +kernel
theorem d_Root_find_64 : decode b_Root_find 64 = .ok (.iload 4, 2) := by decide +kernel
theorem d_Root_find_66 : decode b_Root_find 66 = .ok (.iconst 2, 1) := by decide +kernel
theorem d_Root_find_67 : decode b_Root_find 67 = .ok (.isub, 1) := by decide +kernel
theorem d_Root_find_68 : decode b_Root_find 68 = .ok (.istore 6, 2) := by decide +kernel
theorem d_Root_find_70 : decode b_Root_find 70 = .ok (.iload 6, 2) := by decide +kernel
theorem d_Root_find_72 : decode b_Root_find 72 = .ok (.ifCond .lt 24, 3) := by decide +kernel
theorem d_Root_find_75 : decode b_Root_find 75 = .ok (.aload_n 2, 1) := by decide +kernel
theorem d_Root_find_76 : decode b_Root_find 76 = .ok (.getfield 26, 3) := by decide +kernel
theorem d_Root_find_79 : decode b_Root_find 79 = .ok (.aload_n 3, 1) := by decide +kernel
theorem d_Root_find_80 : decode b_Root_find 80 = .ok (.getfield 26, 3) := by decide +kernel
theorem d_Root_find_83 : decode b_Root_find 83 = .ok (.iload 6, 2) := by decide +kernel
theorem d_Root_find_85 : decode b_Root_find 85 = .ok (.iload 4, 2) := by decide +kernel
theorem d_Root_find_87 : decode b_Root_find 87 = .ok (.invokestatic 36, 3) := by decide +kernel
theorem d_Root_find_90 : decode b_Root_find 90 = .ok (.iinc 6 (-1), 3) := by decide +kernel
theorem d_Root_find_93 : decode b_Root_find 93 = .ok (.goto (-23), 3) := by decide +kernel
theorem d_Root_find_96 : decode b_Root_find 96 = .ok (.aload_n 1, 1) := by decide +kernel
theorem d_Root_find_97 : decode b_Root_find 97 = .ok (.aload_n 2, 1) := by decide +kernel
theorem d_Root_find_98 : decode b_Root_find 98 = .ok (.aload_n 3, 1) := by decide +kernel
theorem d_Root_find_99 : decode b_Root_find 99 = .ok (.iload 4, 2) := by decide +kernel
theorem d_Root_find_101 : decode b_Root_find 101 = .ok (.iload 5, 2) := by decide +kernel
theorem d_Root_find_103 : decode b_Root_find 103 = .ok (.invokestatic 40, 3) := by decide +kernel
theorem d_Root_find_106 : decode b_Root_find 106 = .ok (.return_, 1) := by decide +kernel
theorem d_Root_firstWord_0 : decode b_Root_firstWord 0 = .ok (.iconst 2, 1) := by decide +kernel
theorem d_Root_firstWord_1 : decode b_Root_firstWord 1 = .ok (.iload_n 2, 1) := by decide +kernel
theorem d_Root_firstWord_2 : decode b_Root_firstWord 2 = .ok (.imul, 1) := by decide +kernel
theorem d_Root_firstWord_3 : decode b_Root_firstWord 3 = .ok (.iconst 1, 1) := by decide +kernel
theorem d_Root_firstWord_4 : decode b_Root_firstWord 4 = .ok (.isub, 1) := by decide +kernel
theorem d_Root_firstWord_5 : decode b_Root_firstWord 5 = .ok (.istore_n 3, 1) := by decide +kernel
theorem d_Root_firstWord_6 : decode b_Root_firstWord 6 = .ok (.aload_n 0, 1) := by decide +kernel
theorem d_Root_firstWord_7 : decode b_Root_firstWord 7 = .ok (.iload_n 3, 1) := by decide +kernel
theorem d_Root_firstWord_8 : decode b_Root_firstWord 8 = .ok (.iaload, 1) := by decide +kernel
theorem d_Root_firstWord_9 : decode b_Root_firstWord 9 = .ok (.i2l, 1) := by decide +kernel
theorem d_Root_firstWord_10 : decode b_Root_firstWord 10 = .ok (.bipush 32, 2) := by decide +kernel
theorem d_Root_firstWord_12 : decode b_Root_firstWord 12 = .ok (.lshl, 1) := by decide +kernel
theorem d_Root_firstWord_13 : decode b_Root_firstWord 13 = .ok (.aload_n 0, 1) := by decide +kernel
theorem d_Root_firstWord_14 : decode b_Root_firstWord 14 = .ok (.iload_n 3, 1) := by decide +kernel
theorem d_Root_firstWord_15 : decode b_Root_firstWord 15 = .ok (.iconst 1, 1) := by decide +kernel
theorem d_Root_firstWord_16 : decode b_Root_firstWord 16 = .ok (.isub, 1) := by decide +kernel
theorem d_Root_firstWord_17 : decode b_Root_firstWord 17 = .ok (.iaload, 1) := by decide +kernel
theorem d_Root_firstWord_18 : decode b_Root_firstWord 18 = .ok (.i2l, 1) := by decide +kernel
theorem d_Root_firstWord_19 : decode b_Root_firstWord 19 = .ok (.ldc2_w 44, 3) := by decide +kernel
theorem d_Root_firstWord_22 : decode b_Root_firstWord 22 = .ok (.land, 1) := by decide +kernel
theorem d_Root_firstWord_23 : decode b_Root_firstWord 23 = .ok (.lor, 1) := by decide +kernel
theorem d_Root_firstWord_24 : decode b_Root_firstWord 24 = .ok (.lstore 4, 2) := by decide +kernel
theorem d_Root_firstWord_26 : decode b_Root_firstWord 26 = .ok (.lload 4, 2) := by decide +kernel
theorem d_Root_firstWord_28 : decode b_Root_firstWord 28 = .ok (.invokestatic 46, 3) := by decide +kernel
theorem d_Root_firstWord_31 : decode b_Root_firstWord 31 = .ok (.lstore 6, 2) := by decide +kernel
theorem d_Root_firstWord_33 : decode b_Root_firstWord 33 = .ok (.lload 4, 2) := by decide +kernel
theorem d_Root_firstWord_35 : decode b_Root_firstWord 35 = .ok (.lload 6, 2) := by decide +kernel
theorem d_Root_firstWord_37 : decode b_Root_firstWord 37 = .ok (.lload 6, 2) := by decide +kernel
theorem d_Root_firstWord_39 : decode b_Root_firstWord 39 = .ok (.lmul, 1) := by decide +kernel
theorem d_Root_firstWord_40 : decode b_Root_firstWord 40 = .ok (.lsub, 1) := by decide +kernel
theorem d_Root_firstWord_41 : decode b_Root_firstWord 41 = .ok (.lstore 8, 2) := by decide +kernel
theorem d_Root_firstWord_43 : decode b_Root_firstWord 43 = .ok (.aload_n 0, 1) := by decide +kernel
theorem d_Root_firstWord_44 : decode b_Root_firstWord 44 = .ok (.iload_n 3, 1) := by decide +kernel
theorem d_Root_firstWord_45 : decode b_Root_firstWord 45 = .ok (.iconst 1, 1) := by decide +kernel
theorem d_Root_firstWord_46 : decode b_Root_firstWord 46 = .ok (.isub, 1) := by decide +kernel
theorem d_Root_firstWord_47 : decode b_Root_firstWord 47 = .ok (.lload 8, 2) := by decide +kernel
theorem d_Root_firstWord_49 : decode b_Root_firstWord 49 = .ok (.l2i, 1) := by decide +kernel
theorem d_Root_firstWord_50 : decode b_Root_firstWord 50 = .ok (.iastore, 1) := by decide +kernel
theorem d_Root_firstWord_51 : decode b_Root_firstWord 51 = .ok (.aload_n 0, 1) := by decide +kernel
theorem d_Root_firstWord_52 : decode b_Root_firstWord 52 = .ok (.iload_n 3, 1) := by decide +kernel
theorem d_Root_firstWord_53 : decode b_Root_firstWord 53 = .ok (.lload 8, 2) := by decide +kernel
theorem d_Root_firstWord_55 : decode b_Root_firstWord 55 = .ok (.bipush 32, 2) := by decide +kernel
theorem d_Root_firstWord_57 : decode b_Root_firstWord 57 = .ok (.lushr, 1) := by decide +kernel
theorem d_Root_firstWord_58 : decode b_Root_firstWord 58 = .ok (.l2i, 1) := by decide +kernel
theorem d_Root_firstWord_59 : decode b_Root_firstWord 59 = .ok (.iastore, 1) := by decide +kernel
theorem d_Root_firstWord_60 : decode b_Root_firstWord 60 = .ok (.aload_n 1, 1) := by decide +kernel
theorem d_Root_firstWord_61 : decode b_Root_firstWord 61 = .ok (.iload_n 2, 1) := by decide +kernel
theorem d_Root_firstWord_62 : decode b_Root_firstWord 62 = .ok (.iconst 1, 1) := by decide +kernel
theorem d_Root_firstWord_63 : decode b_Root_firstWord 63 = .ok (.isub, 1) := by decide +kernel
theorem d_Root_firstWord_64 : decode b_Root_firstWord 64 = .ok (.lload 6, 2) := by decide +kernel
theorem d_Root_firstWord_66 : decode b_Root_firstWord 66 = .ok (.invokestatic 50, 3) := by decide +kernel
theorem d_Root_firstWord_69 : decode b_Root_firstWord 69 = .ok (.return_, 1) := by decide +kernel
theorem d_Root_guessWord_0 : decode b_Root_guessWord 0 = .ok (.aload_n 0, 1) := by decide +kernel
theorem d_Root_guessWord_1 : decode b_Root_guessWord 1 = .ok (.iload_n 2, 1) := by decide +kernel
theorem d_Root_guessWord_2 : decode b_Root_guessWord 2 = .ok (.iaload, 1) := by decide +kernel
theorem d_Root_guessWord_3 : decode b_Root_guessWord 3 = .ok (.aload_n 0, 1) := by decide +kernel
theorem d_Root_guessWord_4 : decode b_Root_guessWord 4 = .ok (.iload_n 2, 1) := by decide +kernel
theorem d_Root_guessWord_5 : decode b_Root_guessWord 5 = .ok (.iconst 1, 1) := by decide +kernel
theorem d_Root_guessWord_6 : decode b_Root_guessWord 6 = .ok (.isub, 1) := by decide +kernel
theorem d_Root_guessWord_7 : decode b_Root_guessWord 7 = .ok (.iaload, 1) := by decide +kernel
theorem d_Root_guessWord_8 : decode b_Root_guessWord 8 = .ok (.invokestatic 73, 3) := by decide +kernel
theorem d_Root_guessWord_11 : decode b_Root_guessWord 11 = .ok (.istore 4, 2) := by decide +kernel
theorem d_Root_guessWord_13 : decode b_Root_guessWord 13 = .ok (.aload_n 0, 1) := by decide +kernel
theorem d_Root_guessWord_14 : decode b_Root_guessWord 14 = .ok (.iload_n 2, 1) := by decide +kernel
theorem d_Root_guessWord_15 : decode b_Root_guessWord 15 = .ok (.iconst 1, 1) := by decide +kernel
theorem d_Root_guessWord_16 : decode b_Root_guessWord 16 = .ok (.isub, 1) := by decide +kernel
theorem d_Root_guessWord_17 : decode b_Root_guessWord 17 = .ok (.iaload, 1) := by decide +kernel
theorem d_Root_guessWord_18 : decode b_Root_guessWord 18 = .ok (.aload_n 0, 1) := by decide +kernel
theorem d_Root_guessWord_19 : decode b_Root_guessWord 19 = .ok (.iload_n 2, 1) := by decide +kernel
theorem d_Root_guessWord_20 : decode b_Root_guessWord 20 = .ok (.iconst 2, 1) := by decide +kernel
theorem d_Root_guessWord_21 : decode b_Root_guessWord 21 = .ok (.isub, 1) := by decide +kernel
theorem d_Root_guessWord_22 : decode b_Root_guessWord 22 = .ok (.iaload, 1) := by decide +kernel
theorem d_Root_guessWord_23 : decode b_Root_guessWord 23 = .ok (.invokestatic 73, 3) := by decide +kernel
theorem d_Root_guessWord_26 : decode b_Root_guessWord 26 = .ok (.istore 5, 2) := by decide +kernel
theorem d_Root_guessWord_28 : decode b_Root_guessWord 28 = .ok (.aload_n 0, 1) := by decide +kernel
theorem d_Root_guessWord_29 : decode b_Root_guessWord 29 = .ok (.iload_n 2, 1) := by decide +kernel
theorem d_Root_guessWord_30 : decode b_Root_guessWord 30 = .ok (.iconst 2, 1) := by decide +kernel
theorem d_Root_guessWord_31 : decode b_Root_guessWord 31 = .ok (.isub, 1) := by decide +kernel
theorem d_Root_guessWord_32 : decode b_Root_guessWord 32 = .ok (.iaload, 1) := by decide +kernel
theorem d_Root_guessWord_33 : decode b_Root_guessWord 33 = .ok (.aload_n 0, 1) := by decide +kernel
theorem d_Root_guessWord_34 : decode b_Root_guessWord 34 = .ok (.iload_n 2, 1) := by decide +kernel
theorem d_Root_guessWord_35 : decode b_Root_guessWord 35 = .ok (.iconst 3, 1) := by decide +kernel
theorem d_Root_guessWord_36 : decode b_Root_guessWord 36 = .ok (.isub, 1) := by decide +kernel
theorem d_Root_guessWord_37 : decode b_Root_guessWord 37 = .ok (.iaload, 1) := by decide +kernel
theorem d_Root_guessWord_38 : decode b_Root_guessWord 38 = .ok (.invokestatic 73, 3) := by decide +kernel
theorem d_Root_guessWord_41 : decode b_Root_guessWord 41 = .ok (.istore 6, 2) := by decide +kernel
theorem d_Root_guessWord_43 : decode b_Root_guessWord 43 = .ok (.aload_n 1, 1) := by decide +kernel
theorem d_Root_guessWord_44 : decode b_Root_guessWord 44 = .ok (.iload_n 3, 1) := by decide +kernel
theorem d_Root_guessWord_45 : decode b_Root_guessWord 45 = .ok (.iaload, 1) := by decide +kernel
theorem d_Root_guessWord_46 : decode b_Root_guessWord 46 = .ok (.aload_n 1, 1) := by decide +kernel
theorem d_Root_guessWord_47 : decode b_Root_guessWord 47 = .ok (.iload_n 3, 1) := by decide +kernel
theorem d_Root_guessWord_48 : decode b_Root_guessWord 48 = .ok (.iconst 1, 1) := by decide +kernel
theorem d_Root_guessWord_49 : decode b_Root_guessWord 49 = .ok (.isub, 1) := by decide +kernel
theorem d_Root_guessWord_50 : decode b_Root_guessWord 50 = .ok (.iaload, 1) := by decide +kernel
theorem d_Root_guessWord_51 : decode b_Root_guessWord 51 = .ok (.invokestatic 73, 3) := by decide +kernel
theorem d_Root_guessWord_54 : decode b_Root_guessWord 54 = .ok (.istore 7, 2) := by decide +kernel
theorem d_Root_guessWord_56 : decode b_Root_guessWord 56 = .ok (.aload_n 1, 1) := by decide +kernel
theorem d_Root_guessWord_57 : decode b_Root_guessWord 57 = .ok (.iload_n 3, 1) := by decide +kernel
theorem d_Root_guessWord_58 : decode b_Root_guessWord 58 = .ok (.iconst 1, 1) := by decide +kernel
theorem d_Root_guessWord_59 : decode b_Root_guessWord 59 = .ok (.isub, 1) := by decide +kernel
theorem d_Root_guessWord_60 : decode b_Root_guessWord 60 = .ok (.iaload, 1) := by decide +kernel
theorem d_Root_guessWord_61 : decode b_Root_guessWord 61 = .ok (.aload_n 1, 1) := by decide +kernel
theorem d_Root_guessWord_62 : decode b_Root_guessWord 62 = .ok (.iload_n 3, 1) := by decide +kernel
theorem d_Root_guessWord_63 : decode b_Root_guessWord 63 = .ok (.iconst 2, 1) := by decide +kernel
theorem d_Root_guessWord_64 : decode b_Root_guessWord 64 = .ok (.isub, 1) := by decide +kernel
theorem d_Root_guessWord_65 : decode b_Root_guessWord 65 = .ok (.iaload, 1) := by decide +kernel
theorem d_Root_guessWord_66 : decode b_Root_guessWord 66 = .ok (.invokestatic 73, 3) := by decide +kernel
theorem d_Root_guessWord_69 : decode b_Root_guessWord 69 = .ok (.istore 8, 2) := by decide +kernel
theorem d_Root_guessWord_71 : decode b_Root_guessWord 71 = .ok (.iload 4, 2) := by decide +kernel
theorem d_Root_guessWord_73 : decode b_Root_guessWord 73 = .ok (.iload 5, 2) := by decide +kernel
theorem d_Root_guessWord_75 : decode b_Root_guessWord 75 = .ok (.iload 6, 2) := by decide +kernel
theorem d_Root_guessWord_77 : decode b_Root_guessWord 77 = .ok (.iload 7, 2) := by decide +kernel
theorem d_Root_guessWord_79 : decode b_Root_guessWord 79 = .ok (.iload 8, 2) := by decide +kernel
theorem d_Root_guessWord_81 : decode b_Root_guessWord 81 = .ok (.invokestatic 77, 3) := by decide +kernel
theorem d_Root_guessWord_84 : decode b_Root_guessWord 84 = .ok (.lreturn, 1) := by decide +kernel
theorem d_Root_nextWord_0 : decode b_Root_nextWord 0 = .ok (.iload_n 2, 1) := by decide +kernel
theorem d_Root_nextWord_1 : decode b_Root_nextWord 1 = .ok (.iload_n 3, 1) := by decide +kernel
theorem d_Root_nextWord_2 : decode b_Root_nextWord 2 = .ok (.iadd, 1) := by decide +kernel
theorem d_Root_nextWord_3 : decode b_Root_nextWord 3 = .ok (.iconst 1, 1) := by decide +kernel
theorem d_Root_nextWord_4 : decode b_Root_nextWord 4 = .ok (.iadd, 1) := by decide +kernel
theorem d_Root_nextWord_5 : decode b_Root_nextWord 5 = .ok (.istore 4, 2) := by decide +kernel
theorem d_Root_nextWord_7 : decode b_Root_nextWord 7 = .ok (.iload_n 3, 1) := by decide +kernel
theorem d_Root_nextWord_8 : decode b_Root_nextWord 8 = .ok (.iload_n 2, 1) := by decide +kernel
theorem d_Root_nextWord_9 : decode b_Root_nextWord 9 = .ok (.isub, 1) := by decide +kernel
theorem d_Root_nextWord_10 : decode b_Root_nextWord 10 = .ok (.iconst 1, 1) := by decide +kernel
theorem d_Root_nextWord_11 : decode b_Root_nextWord 11 = .ok (.iadd, 1) := by decide +kernel
theorem d_Root_nextWord_12 : decode b_Root_nextWord 12 = .ok (.istore 5, 2) := by decide +kernel
theorem d_Root_nextWord_14 : decode b_Root_nextWord 14 = .ok (.aload_n 0, 1) := by decide +kernel
theorem d_Root_nextWord_15 : decode b_Root_nextWord 15 = .ok (.aload_n 1, 1) := by decide +kernel
theorem d_Root_nextWord_16 : decode b_Root_nextWord 16 = .ok (.iload 4, 2) := by decide +kernel
theorem d_Root_nextWord_18 : decode b_Root_nextWord 18 = .ok (.iload_n 3, 1) := by decide +kernel
theorem d_Root_nextWord_19 : decode b_Root_nextWord 19 = .ok (.invokestatic 60, 3) := by decide +kernel
theorem d_Root_nextWord_22 : decode b_Root_nextWord 22 = .ok (.lstore 6, 2) := by decide +kernel
theorem d_Root_nextWord_24 : decode b_Root_nextWord 24 = .ok (.aload_n 1, 1) := by decide +kernel
theorem d_Root_nextWord_25 : decode b_Root_nextWord 25 = .ok (.iload_n 2, 1) := by decide +kernel
theorem d_Root_nextWord_26 : decode b_Root_nextWord 26 = .ok (.lload 6, 2) := by decide +kernel
theorem d_Root_nextWord_28 : decode b_Root_nextWord 28 = .ok (.l2i, 1) := by decide +kernel
theorem d_Root_nextWord_29 : decode b_Root_nextWord 29 = .ok (.iastore, 1) := by decide +kernel
theorem d_Root_nextWord_30 : decode b_Root_nextWord 30 = .ok (.aload_n 0, 1) := by decide +kernel
theorem d_Root_nextWord_31 : decode b_Root_nextWord 31 = .ok (.iload 4, 2) := by decide +kernel
theorem d_Root_nextWord_33 : decode b_Root_nextWord 33 = .ok (.iaload, 1) := by decide +kernel
theorem d_Root_nextWord_34 : decode b_Root_nextWord 34 = .ok (.i2l, 1) := by decide +kernel
theorem d_Root_nextWord_35 : decode b_Root_nextWord 35 = .ok (.ldc2_w 44, 3) := by decide +kernel
theorem d_Root_nextWord_38 : decode b_Root_nextWord 38 = .ok (.land, 1) := by decide +kernel
theorem d_Root_nextWord_39 : decode b_Root_nextWord 39 = .ok (.aload_n 0, 1) := by decide +kernel
theorem d_Root_nextWord_40 : decode b_Root_nextWord 40 = .ok (.iconst 2, 1) := by decide +kernel
theorem d_Root_nextWord_41 : decode b_Root_nextWord 41 = .ok (.iload_n 2, 1) := by decide +kernel
theorem d_Root_nextWord_42 : decode b_Root_nextWord 42 = .ok (.imul, 1) := by decide +kernel
theorem d_Root_nextWord_43 : decode b_Root_nextWord 43 = .ok (.aload_n 1, 1) := by decide +kernel
theorem d_Root_nextWord_44 : decode b_Root_nextWord 44 = .ok (.iload_n 2, 1) := by decide +kernel
theorem d_Root_nextWord_45 : decode b_Root_nextWord 45 = .ok (.iload 5, 2) := by decide +kernel
theorem d_Root_nextWord_47 : decode b_Root_nextWord 47 = .ok (.lload 6, 2) := by decide +kernel
theorem d_Root_nextWord_49 : decode b_Root_nextWord 49 = .ok (.invokestatic 64, 3) := by decide +kernel
theorem d_Root_nextWord_52 : decode b_Root_nextWord 52 = .ok (.lsub, 1) := by decide +kernel
theorem d_Root_nextWord_53 : decode b_Root_nextWord 53 = .ok (.lstore 8, 2) := by decide +kernel
theorem d_Root_nextWord_55 : decode b_Root_nextWord 55 = .ok (.aload_n 1, 1) := by decide +kernel
theorem d_Root_nextWord_56 : decode b_Root_nextWord 56 = .ok (.iload_n 2, 1) := by decide +kernel
theorem d_Root_nextWord_57 : decode b_Root_nextWord 57 = .ok (.iconst 0, 1) := by decide +kernel
theorem d_Root_nextWord_58 : decode b_Root_nextWord 58 = .ok (.iastore, 1) := by decide +kernel
theorem d_Root_nextWord_59 : decode b_Root_nextWord 59 = .ok (.iconst 0, 1) := by decide +kernel
theorem d_Root_nextWord_60 : decode b_Root_nextWord 60 = .ok (.istore 10, 2) := by decide +kernel
theorem d_Root_nextWord_62 : decode b_Root_nextWord 62 = .ok (.iload 10, 2) := by decide +kernel
theorem d_Root_nextWord_64 : decode b_Root_nextWord 64 = .ok (.iconst 3, 1) := by decide +kernel
theorem d_Root_nextWord_65 : decode b_Root_nextWord 65 = .ok (.if_icmp .ge 46, 3) := by decide +kernel
theorem d_Root_nextWord_68 : decode b_Root_nextWord 68 = .ok (.lload 8, 2) := by decide +kernel
theorem d_Root_nextWord_70 : decode b_Root_nextWord 70 = .ok (.lconst 0, 1) := by decide +kernel
theorem d_Root_nextWord_71 : decode b_Root_nextWord 71 = .ok (.lcmp, 1) := by decide +kernel
theorem d_Root_nextWord_72 : decode b_Root_nextWord 72 = .ok (.ifCond .ge 39, 3) := by decide +kernel
theorem d_Root_nextWord_75 : decode b_Root_nextWord 75 = .ok (.lload 6, 2) := by decide +kernel
theorem d_Root_nextWord_77 : decode b_Root_nextWord 77 = .ok (.lconst 1, 1) := by decide +kernel
theorem d_Root_nextWord_78 : decode b_Root_nextWord 78 = .ok (.lsub, 1) := by decide +kernel
theorem d_Root_nextWord_79 : decode b_Root_nextWord 79 = .ok (.lstore 6, 2) := by decide +kernel
theorem d_Root_nextWord_81 : decode b_Root_nextWord 81 = .ok (.lload 8, 2) := by decide +kernel
theorem d_Root_nextWord_83 : decode b_Root_nextWord 83 = .ok (.aload_n 0, 1) := by decide +kernel
theorem d_Root_nextWord_84 : decode b_Root_nextWord 84 = .ok (.iconst 2, 1) := by decide +kernel
theorem d_Root_nextWord_85 : decode b_Root_nextWord 85 = .ok (.iload_n 2, 1) := by decide +kernel
theorem d_Root_nextWord_86 : decode b_Root_nextWord 86 = .ok (.imul, 1) := by decide +kernel
theorem d_Root_nextWord_87 : decode b_Root_nextWord 87 = .ok (.aload_n 1, 1) := by decide +kernel
theorem d_Root_nextWord_88 : decode b_Root_nextWord 88 = .ok (.iload_n 2, 1) := by decide +kernel
theorem d_Root_nextWord_89 : decode b_Root_nextWord 89 = .ok (.iload 5, 2) := by decide +kernel
theorem d_Root_nextWord_91 : decode b_Root_nextWord 91 = .ok (.ldc2_w 68, 3) := by decide +kernel
theorem d_Root_nextWord_94 : decode b_Root_nextWord 94 = .ok (.lload 6, 2) := by decide +kernel
theorem d_Root_nextWord_96 : decode b_Root_nextWord 96 = .ok (.lmul, 1) := by decide +kernel
theorem d_Root_nextWord_97 : decode b_Root_nextWord 97 = .ok (.lconst 1, 1) := by decide +kernel
theorem d_Root_nextWord_98 : decode b_Root_nextWord 98 = .ok (.ladd, 1) := by decide +kernel
theorem d_Root_nextWord_99 : decode b_Root_nextWord 99 = .ok (.invokestatic 70, 3) := by decide +kernel
theorem d_Root_nextWord_102 : decode b_Root_nextWord 102 = .ok (.ladd, 1) := by decide +kernel
theorem d_Root_nextWord_103 : decode b_Root_nextWord 103 = .ok (.lstore 8, 2) := by decide +kernel
theorem d_Root_nextWord_105 : decode b_Root_nextWord 105 = .ok (.iinc 10 1, 3) := by decide +kernel
theorem d_Root_nextWord_108 : decode b_Root_nextWord 108 = .ok (.goto (-46), 3) := by decide +kernel
theorem d_Root_nextWord_111 : decode b_Root_nextWord 111 = .ok (.aload_n 0, 1) := by decide +kernel
theorem d_Root_nextWord_112 : decode b_Root_nextWord 112 = .ok (.iload 4, 2) := by decide +kernel
theorem d_Root_nextWord_114 : decode b_Root_nextWord 114 = .ok (.lload 8, 2) := by decide +kernel
theorem d_Root_nextWord_116 : decode b_Root_nextWord 116 = .ok (.l2i, 1) := by decide +kernel
theorem d_Root_nextWord_117 : decode b_Root_nextWord 117 = .ok (.iastore, 1) := by decide +kernel
theorem d_Root_nextWord_118 : decode b_Root_nextWord 118 = .ok (.aload_n 1, 1) := by decide +kernel
theorem d_Root_nextWord_119 : decode b_Root_nextWord 119 = .ok (.iload_n 2, 1) := by decide +kernel
theorem d_Root_nextWord_120 : decode b_Root_nextWord 120 = .ok (.lload 6, 2) := by decide +kernel
theorem d_Root_nextWord_122 : decode b_Root_nextWord 122 = .ok (.invokestatic 50, 3) := by decide +kernel
theorem d_Root_nextWord_125 : decode b_Root_nextWord 125 = .ok (.return_, 1) := by decide +kernel
theorem d_Root_putWord_0 : decode b_Root_putWord 0 = .ok (.aload_n 0, 1) := by decide +kernel
theorem d_Root_putWord_1 : decode b_Root_putWord 1 = .ok (.iload_n 1, 1) := by decide +kernel
theorem d_Root_putWord_2 : decode b_Root_putWord 2 = .ok (.lload_n 2, 1) := by decide +kernel
theorem d_Root_putWord_3 : decode b_Root_putWord 3 = .ok (.iconst 1, 1) := by decide +kernel
theorem d_Root_putWord_4 : decode b_Root_putWord 4 = .ok (.lshl, 1) := by decide +kernel
theorem d_Root_putWord_5 : decode b_Root_putWord 5 = .ok (.l2i, 1) := by decide +kernel
theorem d_Root_putWord_6 : decode b_Root_putWord 6 = .ok (.iastore, 1) := by decide +kernel
theorem d_Root_putWord_7 : decode b_Root_putWord 7 = .ok (.aload_n 0, 1) := by decide +kernel
theorem d_Root_putWord_8 : decode b_Root_putWord 8 = .ok (.iload_n 1, 1) := by decide +kernel
theorem d_Root_putWord_9 : decode b_Root_putWord 9 = .ok (.iconst 1, 1) := by decide +kernel
theorem d_Root_putWord_10 : decode b_Root_putWord 10 = .ok (.iadd, 1) := by decide +kernel
theorem d_Root_putWord_11 : decode b_Root_putWord 11 = .ok (.dup2, 1) := by decide +kernel
theorem d_Root_putWord_12 : decode b_Root_putWord 12 = .ok (.iaload, 1) := by decide +kernel
theorem d_Root_putWord_13 : decode b_Root_putWord 13 = .ok (.lload_n 2, 1) := by decide +kernel
theorem d_Root_putWord_14 : decode b_Root_putWord 14 = .ok (.bipush 31, 2) := by decide +kernel
theorem d_Root_putWord_16 : decode b_Root_putWord 16 = .ok (.lushr, 1) := by decide +kernel
theorem d_Root_putWord_17 : decode b_Root_putWord 17 = .ok (.l2i, 1) := by decide +kernel
theorem d_Root_putWord_18 : decode b_Root_putWord 18 = .ok (.ior, 1) := by decide +kernel
theorem d_Root_putWord_19 : decode b_Root_putWord 19 = .ok (.iastore, 1) := by decide +kernel
theorem d_Root_putWord_20 : decode b_Root_putWord 20 = .ok (.return_, 1) := by decide +kernel
theorem d_Root_rootOfPair_0 : decode b_Root_rootOfPair 0 = .ok (.lconst 0, 1) := by decide +kernel
theorem d_Root_rootOfPair_1 : decode b_Root_rootOfPair 1 = .ok (.lstore_n 2, 1) := by decide +kernel
theorem d_Root_rootOfPair_2 : decode b_Root_rootOfPair 2 = .ok (.bipush 31, 2) := by decide +kernel
theorem d_Root_rootOfPair_4 : decode b_Root_rootOfPair 4 = .ok (.istore 4, 2) := by decide +kernel
theorem d_Root_rootOfPair_6 : decode b_Root_rootOfPair 6 = .ok (.iload 4, 2) := by decide +kernel
theorem d_Root_rootOfPair_8 : decode b_Root_rootOfPair 8 = .ok (.ifCond .lt 32, 3) := by decide +kernel
theorem d_Root_rootOfPair_11 : decode b_Root_rootOfPair 11 = .ok (.lload_n 2, 1) := by decide +kernel
theorem d_Root_rootOfPair_12 : decode b_Root_rootOfPair 12 = .ok (.lconst 1, 1) := by decide +kernel
theorem d_Root_rootOfPair_13 : decode b_Root_rootOfPair 13 = .ok (.iload 4, 2) := by decide +kernel
theorem d_Root_rootOfPair_15 : decode b_Root_rootOfPair 15 = .ok (.lshl, 1) := by decide +kernel
theorem d_Root_rootOfPair_16 : decode b_Root_rootOfPair 16 = .ok (.lor, 1) := by decide +kernel
theorem d_Root_rootOfPair_17 : decode b_Root_rootOfPair 17 = .ok (.lstore 5, 2) := by decide +kernel
theorem d_Root_rootOfPair_19 : decode b_Root_rootOfPair 19 = .ok (.lload 5, 2) := by decide +kernel
theorem d_Root_rootOfPair_21 : decode b_Root_rootOfPair 21 = .ok (.lload 5, 2) := by decide +kernel
theorem d_Root_rootOfPair_23 : decode b_Root_rootOfPair 23 = .ok (.lmul, 1) := by decide +kernel
theorem d_Root_rootOfPair_24 : decode b_Root_rootOfPair 24 = .ok (.lload_n 0, 1) := by decide +kernel
theorem d_Root_rootOfPair_25 : decode b_Root_rootOfPair 25 = .ok (.invokestatic 54, 3) := by decide +kernel
theorem d_Root_rootOfPair_28 : decode b_Root_rootOfPair 28 = .ok (.ifCond .ne 6, 3) := by decide +kernel
theorem d_Root_rootOfPair_31 : decode b_Root_rootOfPair 31 = .ok (.lload 5, 2) := by decide +kernel
theorem d_Root_rootOfPair_33 : decode b_Root_rootOfPair 33 = .ok (.lstore_n 2, 1) := by decide +kernel
theorem d_Root_rootOfPair_34 : decode b_Root_rootOfPair 34 = .ok (.iinc 4 (-1), 3) := by decide +kernel
theorem d_Root_rootOfPair_37 : decode b_Root_rootOfPair 37 = .ok (.goto (-31), 3) := by decide +kernel
theorem d_Root_rootOfPair_40 : decode b_Root_rootOfPair 40 = .ok (.lload_n 2, 1) := by decide +kernel
theorem d_Root_rootOfPair_41 : decode b_Root_rootOfPair 41 = .ok (.lreturn, 1) := by decide +kernel
theorem d_Root_shiftBack_0 : decode b_Root_shiftBack 0 = .ok (.aload_n 2, 1) := by decide +kernel
theorem d_Root_shiftBack_1 : decode b_Root_shiftBack 1 = .ok (.getfield 26, 3) := by decide +kernel
theorem d_Root_shiftBack_4 : decode b_Root_shiftBack 4 = .ok (.iconst 1, 1) := by decide +kernel
theorem d_Root_shiftBack_5 : decode b_Root_shiftBack 5 = .ok (.iaload, 1) := by decide +kernel
theorem d_Root_shiftBack_6 : decode b_Root_shiftBack 6 = .ok (.aload_n 2, 1) := by decide +kernel
theorem d_Root_shiftBack_7 : decode b_Root_shiftBack 7 = .ok (.getfield 26, 3) := by decide +kernel
theorem d_Root_shiftBack_10 : decode b_Root_shiftBack 10 = .ok (.iconst 0, 1) := by decide +kernel
theorem d_Root_shiftBack_11 : decode b_Root_shiftBack 11 = .ok (.iaload, 1) := by decide +kernel
theorem d_Root_shiftBack_12 : decode b_Root_shiftBack 12 = .ok (.invokestatic 73, 3) := by decide +kernel
theorem d_Root_shiftBack_15 : decode b_Root_shiftBack 15 = .ok (.iconst 1, 1) := by decide +kernel
theorem d_Root_shiftBack_16 : decode b_Root_shiftBack 16 = .ok (.iload 4, 2) := by decide +kernel
theorem d_Root_shiftBack_18 : decode b_Root_shiftBack 18 = .ok (.ishl, 1) := by decide +kernel
theorem d_Root_shiftBack_19 : decode b_Root_shiftBack 19 = .ok (.iconst 1, 1) := by decide +kernel
theorem d_Root_shiftBack_20 : decode b_Root_shiftBack 20 = .ok (.isub, 1) := by decide +kernel
theorem d_Root_shiftBack_21 : decode b_Root_shiftBack 21 = .ok (.iand, 1) := by decide +kernel
theorem d_Root_shiftBack_22 : decode b_Root_shiftBack 22 = .ok (.istore 5, 2) := by decide +kernel
theorem d_Root_shiftBack_24 : decode b_Root_shiftBack 24 = .ok (.aload_n 1, 1) := by decide +kernel
theorem d_Root_shiftBack_25 : decode b_Root_shiftBack 25 = .ok (.getfield 26, 3) := by decide +kernel
theorem d_Root_shiftBack_28 : decode b_Root_shiftBack 28 = .ok (.iconst 0, 1) := by decide +kernel
theorem d_Root_shiftBack_29 : decode b_Root_shiftBack 29 = .ok (.aload_n 2, 1) := by decide +kernel
theorem d_Root_shiftBack_30 : decode b_Root_shiftBack 30 = .ok (.getfield 26, 3) := by decide +kernel
theorem d_Root_shiftBack_33 : decode b_Root_shiftBack 33 = .ok (.iload_n 3, 1) := by decide +kernel
theorem d_Root_shiftBack_34 : decode b_Root_shiftBack 34 = .ok (.iconst 1, 1) := by decide +kernel
theorem d_Root_shiftBack_35 : decode b_Root_shiftBack 35 = .ok (.iadd, 1) := by decide +kernel
theorem d_Root_shiftBack_36 : decode b_Root_shiftBack 36 = .ok (.iload 5, 2) := by decide +kernel
theorem d_Root_shiftBack_38 : decode b_Root_shiftBack 38 = .ok (.i2l, 1) := by decide +kernel
theorem d_Root_shiftBack_39 : decode b_Root_shiftBack 39 = .ok (.invokestatic 81, 3) := by decide +kernel
theorem d_Root_shiftBack_42 : decode b_Root_shiftBack 42 = .ok (.pop2, 1) := by decide +kernel
theorem d_Root_shiftBack_43 : decode b_Root_shiftBack 43 = .ok (.aload_n 1, 1) := by decide +kernel
theorem d_Root_shiftBack_44 : decode b_Root_shiftBack 44 = .ok (.iload_n 3, 1) := by decide +kernel
theorem d_Root_shiftBack_45 : decode b_Root_shiftBack 45 = .ok (.iconst 1, 1) := by decide +kernel
theorem d_Root_shiftBack_46 : decode b_Root_shiftBack 46 = .ok (.iadd, 1) := by decide +kernel
theorem d_Root_shiftBack_47 : decode b_Root_shiftBack 47 = .ok (.invokevirtual 85, 3) := by decide +kernel
theorem d_Root_shiftBack_50 : decode b_Root_shiftBack 50 = .ok (.aload_n 1, 1) := by decide +kernel
theorem d_Root_shiftBack_51 : decode b_Root_shiftBack 51 = .ok (.aload_n 1, 1) := by decide +kernel
theorem d_Root_shiftBack_52 : decode b_Root_shiftBack 52 = .ok (.iconst 2, 1) := by decide +kernel
theorem d_Root_shiftBack_53 : decode b_Root_shiftBack 53 = .ok (.iload 4, 2) := by decide +kernel
theorem d_Root_shiftBack_55 : decode b_Root_shiftBack 55 = .ok (.imul, 1) := by decide +kernel
theorem d_Root_shiftBack_56 : decode b_Root_shiftBack 56 = .ok (.invokevirtual 89, 3) := by decide +kernel
theorem d_Root_shiftBack_59 : decode b_Root_shiftBack 59 = .ok (.aload_n 2, 1) := by decide +kernel
theorem d_Root_shiftBack_60 : decode b_Root_shiftBack 60 = .ok (.iload_n 3, 1) := by decide +kernel
theorem d_Root_shiftBack_61 : decode b_Root_shiftBack 61 = .ok (.iconst 1, 1) := by decide +kernel
theorem d_Root_shiftBack_62 : decode b_Root_shiftBack 62 = .ok (.iadd, 1) := by decide +kernel
theorem d_Root_shiftBack_63 : decode b_Root_shiftBack 63 = .ok (.invokevirtual 85, 3) := by decide +kernel
theorem d_Root_shiftBack_66 : decode b_Root_shiftBack 66 = .ok (.aload_n 0, 1) := by decide +kernel
theorem d_Root_shiftBack_67 : decode b_Root_shiftBack 67 = .ok (.aload_n 2, 1) := by decide +kernel
theorem d_Root_shiftBack_68 : decode b_Root_shiftBack 68 = .ok (.iload 4, 2) := by decide +kernel
theorem d_Root_shiftBack_70 : decode b_Root_shiftBack 70 = .ok (.iconst 1, 1) := by decide +kernel
theorem d_Root_shiftBack_71 : decode b_Root_shiftBack 71 = .ok (.iadd, 1) := by decide +kernel
theorem d_Root_shiftBack_72 : decode b_Root_shiftBack 72 = .ok (.invokevirtual 89, 3) := by decide +kernel
theorem d_Root_shiftBack_75 : decode b_Root_shiftBack 75 = .ok (.return_, 1) := by decide +kernel
