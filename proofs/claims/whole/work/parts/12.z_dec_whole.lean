theorem d_Whole_become_0 : decode b_Whole_become 0 = .ok (.aload_n 1, 1) := by decide +kernel
theorem d_Whole_become_1 : decode b_Whole_become 1 = .ok (.getfield 9, 3) := by decide +kernel
theorem d_Whole_become_4 : decode b_Whole_become 4 = .ok (.iconst 0, 1) := by decide +kernel
theorem d_Whole_become_5 : decode b_Whole_become 5 = .ok (.aload_n 0, 1) := by decide +kernel
theorem d_Whole_become_6 : decode b_Whole_become 6 = .ok (.getfield 9, 3) := by decide +kernel
theorem d_Whole_become_9 : decode b_Whole_become 9 = .ok (.iconst 0, 1) := by decide +kernel
theorem d_Whole_become_10 : decode b_Whole_become 10 = .ok (.aload_n 1, 1) := by decide +kernel
theorem d_Whole_become_11 : decode b_Whole_become 11 = .ok (.getfield 15, 3) := by decide +kernel
theorem d_Whole_become_14 : decode b_Whole_become 14 = .ok (.invokestatic 23, 3) := by decide +kernel
theorem d_Whole_become_17 : decode b_Whole_become 17 = .ok (.aload_n 0, 1) := by decide +kernel
theorem d_Whole_become_18 : decode b_Whole_become 18 = .ok (.aload_n 1, 1) := by decide +kernel
theorem d_Whole_become_19 : decode b_Whole_become 19 = .ok (.getfield 15, 3) := by decide +kernel
theorem d_Whole_become_22 : decode b_Whole_become 22 = .ok (.invokevirtual 19, 3) := by decide +kernel
theorem d_Whole_become_25 : decode b_Whole_become 25 = .ok (.return_, 1) := by decide +kernel
theorem d_Whole_becomeDifference_0 : decode b_Whole_becomeDifference 0 = .ok (.aload_n 1, 1) := by decide +kernel
theorem d_Whole_becomeDifference_1 : decode b_Whole_becomeDifference 1 = .ok (.getfield 15, 3) := by decide +kernel
theorem d_Whole_becomeDifference_4 : decode b_Whole_becomeDifference 4 = .ok (.istore_n 3, 1) := by decide +kernel
theorem d_Whole_becomeDifference_5 : decode b_Whole_becomeDifference 5 = .ok (.lconst 0, 1) := by decide +kernel
theorem d_Whole_becomeDifference_6 : decode b_Whole_becomeDifference 6 = .ok (.lstore 4, 2) := by decide +kernel
theorem d_Whole_becomeDifference_8 : decode b_Whole_becomeDifference 8 = .ok (.iconst 0, 1) := by decide +kernel
theorem d_Whole_becomeDifference_9 : decode b_Whole_becomeDifference 9 = .ok (.istore 6, 2) := by decide +kernel
theorem d_Whole_becomeDifference_11 : decode b_Whole_becomeDifference 11 = .ok (.iload 6, 2) := by decide +kernel
theorem d_Whole_becomeDifference_13 : decode b_Whole_becomeDifference 13 = .ok (.iload_n 3, 1) := by decide +kernel
theorem d_Whole_becomeDifference_14 : decode b_Whole_becomeDifference 14 = .ok (.if_icmp .ge 56, 3) := by decide +kernel
theorem d_Whole_becomeDifference_17 : decode b_Whole_becomeDifference 17 = .ok (.aload_n 1, 1) := by decide +kernel
theorem d_Whole_becomeDifference_18 : decode b_Whole_becomeDifference 18 = .ok (.getfield 9, 3) := by decide +kernel
theorem d_Whole_becomeDifference_21 : decode b_Whole_becomeDifference 21 = .ok (.iload 6, 2) := by decide +kernel
theorem d_Whole_becomeDifference_23 : decode b_Whole_becomeDifference 23 = .ok (.iaload, 1) := by decide +kernel
theorem d_Whole_becomeDifference_24 : decode b_Whole_becomeDifference 24 = .ok (.i2l, 1) := by decide +kernel
theorem d_Whole_becomeDifference_25 : decode b_Whole_becomeDifference 25 = .ok (.ldc2_w 35, 3) := by decide +kernel
theorem d_Whole_becomeDifference_28 : decode b_Whole_becomeDifference 28 = .ok (.land, 1) := by decide +kernel
theorem d_Whole_becomeDifference_29 : decode b_Whole_becomeDifference 29 = .ok (.aload_n 2, 1) := by decide +kernel
theorem d_Whole_becomeDifference_30 : decode b_Whole_becomeDifference 30 = .ok (.getfield 9, 3) := by decide +kernel
theorem d_Whole_becomeDifference_33 : decode b_Whole_becomeDifference 33 = .ok (.iload 6, 2) := by decide +kernel
theorem d_Whole_becomeDifference_35 : decode b_Whole_becomeDifference 35 = .ok (.iaload, 1) := by decide +kernel
theorem d_Whole_becomeDifference_36 : decode b_Whole_becomeDifference 36 = .ok (.i2l, 1) := by decide +kernel
theorem d_Whole_becomeDifference_37 : decode b_Whole_becomeDifference 37 = .ok (.ldc2_w 35, 3) := by decide +kernel
theorem d_Whole_becomeDifference_40 : decode b_Whole_becomeDifference 40 = .ok (.land, 1) := by decide +kernel
theorem d_Whole_becomeDifference_41 : decode b_Whole_becomeDifference 41 = .ok (.lsub, 1) := by decide +kernel
theorem d_Whole_becomeDifference_42 : decode b_Whole_becomeDifference 42 = .ok (.lload 4, 2) := by decide +kernel
theorem d_Whole_becomeDifference_44 : decode b_Whole_becomeDifference 44 = .ok (.lsub, 1) := by decide +kernel
theorem d_Whole_becomeDifference_45 : decode b_Whole_becomeDifference 45 = .ok (.lstore 7, 2) := by decide +kernel
theorem d_Whole_becomeDifference_47 : decode b_Whole_becomeDifference 47 = .ok (.aload_n 0, 1) := by decide +kernel
theorem d_Whole_becomeDifference_48 : decode b_Whole_becomeDifference 48 = .ok (.getfield 9, 3) := by decide +kernel
theorem d_Whole_becomeDifference_51 : decode b_Whole_becomeDifference 51 = .ok (.iload 6, 2) := by decide +kernel
theorem d_Whole_becomeDifference_53 : decode b_Whole_becomeDifference 53 = .ok (.lload 7, 2) := by decide +kernel
theorem d_Whole_becomeDifference_55 : decode b_Whole_becomeDifference 55 = .ok (.l2i, 1) := by decide +kernel
theorem d_Whole_becomeDifference_56 : decode b_Whole_becomeDifference 56 = .ok (.iastore, 1) := by decide +kernel
theorem d_Whole_becomeDifference_57 : decode b_Whole_becomeDifference 57 = .ok (.lload 7, 2) := by decide +kernel
theorem d_Whole_becomeDifference_59 : decode b_Whole_becomeDifference 59 = .ok (.bipush 63, 2) := by decide +kernel
theorem d_Whole_becomeDifference_61 : decode b_Whole_becomeDifference 61 = .ok (.lushr, 1) := by decide +kernel
theorem d_Whole_becomeDifference_62 : decode b_Whole_becomeDifference 62 = .ok (.lstore 4, 2) := by decide +kernel
theorem d_Whole_becomeDifference_64 : decode b_Whole_becomeDifference 64 = .ok (.iinc 6 1, 3) := by decide +kernel
theorem d_Whole_becomeDifference_67 : decode b_Whole_becomeDifference 67 = .ok (.goto (-56), 3) := by decide +kernel
theorem d_Whole_becomeDifference_70 : decode b_Whole_becomeDifference 70 = .ok (.aload_n 0, 1) := by decide +kernel
theorem d_Whole_becomeDifference_71 : decode b_Whole_becomeDifference 71 = .ok (.iload_n 3, 1) := by decide +kernel
theorem d_Whole_becomeDifference_72 : decode b_Whole_becomeDifference 72 = .ok (.invokevirtual 19, 3) := by decide +kernel
theorem d_Whole_becomeDifference_75 : decode b_Whole_becomeDifference 75 = .ok (.return_, 1) := by decide +kernel
theorem d_Whole_becomePairs_0 : decode b_Whole_becomePairs 0 = .ok (.iconst 0, 1) := by decide +kernel
theorem d_Whole_becomePairs_1 : decode b_Whole_becomePairs 1 = .ok (.istore 4, 2) := by decide +kernel
theorem d_Whole_becomePairs_3 : decode b_Whole_becomePairs 3 = .ok (.iload 4, 2) := by decide +kernel
theorem d_Whole_becomePairs_5 : decode b_Whole_becomePairs 5 = .ok (.iload_n 3, 1) := by decide +kernel
theorem d_Whole_becomePairs_6 : decode b_Whole_becomePairs 6 = .ok (.if_icmp .ge 36, 3) := by decide +kernel
theorem d_Whole_becomePairs_9 : decode b_Whole_becomePairs 9 = .ok (.aload_n 0, 1) := by decide +kernel
theorem d_Whole_becomePairs_10 : decode b_Whole_becomePairs 10 = .ok (.getfield 9, 3) := by decide +kernel
theorem d_Whole_becomePairs_13 : decode b_Whole_becomePairs 13 = .ok (.iconst 2, 1) := by decide +kernel
theorem d_Whole_becomePairs_14 : decode b_Whole_becomePairs 14 = .ok (.iload 4, 2) := by decide +kernel
theorem d_Whole_becomePairs_16 : decode b_Whole_becomePairs 16 = .ok (.imul, 1) := by decide +kernel
theorem d_Whole_becomePairs_17 : decode b_Whole_becomePairs 17 = .ok (.lload_n 1, 1) := by decide +kernel
theorem d_Whole_becomePairs_18 : decode b_Whole_becomePairs 18 = .ok (.l2i, 1) := by decide +kernel
theorem d_Whole_becomePairs_19 : decode b_Whole_becomePairs 19 = .ok (.iastore, 1) := by decide +kernel
theorem d_Whole_becomePairs_20 : decode b_Whole_becomePairs 20 = .ok (.aload_n 0, 1) := by decide +kernel
theorem d_Whole_becomePairs_21 : decode b_Whole_becomePairs 21 = .ok (.getfield 9, 3) := by decide +kernel
theorem d_Whole_becomePairs_24 : decode b_Whole_becomePairs 24 = .ok (.iconst 2, 1) := by decide +kernel
theorem d_Whole_becomePairs_25 : decode b_Whole_becomePairs 25 = .ok (.iload 4, 2) := by decide +kernel
theorem d_Whole_becomePairs_27 : decode b_Whole_becomePairs 27 = .ok (.imul, 1) := by decide +kernel
theorem d_Whole_becomePairs_28 : decode b_Whole_becomePairs 28 = .ok (.iconst 1, 1) := by decide +kernel
theorem d_Whole_becomePairs_29 : decode b_Whole_becomePairs 29 = .ok (.iadd, 1) := by decide +kernel
theorem d_Whole_becomePairs_30 : decode b_Whole_becomePairs 30 = .ok (.lload_n 1, 1) := by decide +kernel
theorem d_Whole_becomePairs_31 : decode b_Whole_becomePairs 31 = .ok (.bipush 32, 2) := by decide +kernel
theorem d_Whole_becomePairs_33 : decode b_Whole_becomePairs 33 = .ok (.lushr, 1) := by decide +kernel
theorem d_Whole_becomePairs_34 : decode b_Whole_becomePairs 34 = .ok (.l2i, 1) := by decide +kernel
theorem d_Whole_becomePairs_35 : decode b_Whole_becomePairs 35 = .ok (.iastore, 1) := by decide +kernel
theorem d_Whole_becomePairs_36 : decode b_Whole_becomePairs 36 = .ok (.iinc 4 1, 3) := by decide +kernel
theorem d_Whole_becomePairs_39 : decode b_Whole_becomePairs 39 = .ok (.goto (-36), 3) := by decide +kernel
theorem d_Whole_becomePairs_42 : decode b_Whole_becomePairs 42 = .ok (.aload_n 0, 1) := by decide +kernel
theorem d_Whole_becomePairs_43 : decode b_Whole_becomePairs 43 = .ok (.iconst 2, 1) := by decide +kernel
theorem d_Whole_becomePairs_44 : decode b_Whole_becomePairs 44 = .ok (.iload_n 3, 1) := by decide +kernel
theorem d_Whole_becomePairs_45 : decode b_Whole_becomePairs 45 = .ok (.imul, 1) := by decide +kernel
theorem d_Whole_becomePairs_46 : decode b_Whole_becomePairs 46 = .ok (.invokevirtual 19, 3) := by decide +kernel
theorem d_Whole_becomePairs_49 : decode b_Whole_becomePairs 49 = .ok (.return_, 1) := by decide +kernel
theorem d_Whole_becomeProduct_0 : decode b_Whole_becomeProduct 0 = .ok (.aload_n 0, 1) := by decide +kernel
theorem d_Whole_becomeProduct_1 : decode b_Whole_becomeProduct 1 = .ok (.invokevirtual 37, 3) := by decide +kernel
theorem d_Whole_becomeProduct_4 : decode b_Whole_becomeProduct 4 = .ok (.iconst 0, 1) := by decide +kernel
theorem d_Whole_becomeProduct_5 : decode b_Whole_becomeProduct 5 = .ok (.istore_n 3, 1) := by decide +kernel
theorem d_Whole_becomeProduct_6 : decode b_Whole_becomeProduct 6 = .ok (.iload_n 3, 1) := by decide +kernel
theorem d_Whole_becomeProduct_7 : decode b_Whole_becomeProduct 7 = .ok (.aload_n 1, 1) := by decide +kernel
theorem d_Whole_becomeProduct_8 : decode b_Whole_becomeProduct 8 = .ok (.getfield 15, 3) := by decide +kernel
theorem d_Whole_becomeProduct_11 : decode b_Whole_becomeProduct 11 = .ok (.if_icmp .ge 61, 3) := by decide +kernel
theorem d_Whole_becomeProduct_14 : decode b_Whole_becomeProduct 14 = .ok (.aload_n 1, 1) := by decide +kernel
theorem d_Whole_becomeProduct_15 : decode b_Whole_becomeProduct 15 = .ok (.getfield 9, 3) := by decide +kernel
theorem d_Whole_becomeProduct_18 : decode b_Whole_becomeProduct 18 = .ok (.iload_n 3, 1) := by decide +kernel
theorem d_Whole_becomeProduct_19 : decode b_Whole_becomeProduct 19 = .ok (.iaload, 1) := by decide +kernel
theorem d_Whole_becomeProduct_20 : decode b_Whole_becomeProduct 20 = .ok (.ifCond .eq 46, 3) := by decide +kernel
theorem d_Whole_becomeProduct_23 : decode b_Whole_becomeProduct 23 = .ok (.aload_n 0, 1) := by decide +kernel
theorem d_Whole_becomeProduct_24 : decode b_Whole_becomeProduct 24 = .ok (.getfield 9, 3) := by decide +kernel
theorem d_Whole_becomeProduct_27 : decode b_Whole_becomeProduct 27 = .ok (.iload_n 3, 1) := by decide +kernel
theorem d_Whole_becomeProduct_28 : decode b_Whole_becomeProduct 28 = .ok (.aload_n 2, 1) := by decide +kernel
theorem d_Whole_becomeProduct_29 : decode b_Whole_becomeProduct 29 = .ok (.getfield 9, 3) := by decide +kernel
theorem d_Whole_becomeProduct_32 : decode b_Whole_becomeProduct 32 = .ok (.aload_n 2, 1) := by decide +kernel
theorem d_Whole_becomeProduct_33 : decode b_Whole_becomeProduct 33 = .ok (.getfield 15, 3) := by decide +kernel
theorem d_Whole_becomeProduct_36 : decode b_Whole_becomeProduct 36 = .ok (.aload_n 1, 1) := by decide +kernel
theorem d_Whole_becomeProduct_37 : decode b_Whole_becomeProduct 37 = .ok (.getfield 9, 3) := by decide +kernel
theorem d_Whole_becomeProduct_40 : decode b_Whole_becomeProduct 40 = .ok (.iload_n 3, 1) := by decide +kernel
theorem d_Whole_becomeProduct_41 : decode b_Whole_becomeProduct 41 = .ok (.iaload, 1) := by decide +kernel
theorem d_Whole_becomeProduct_42 : decode b_Whole_becomeProduct 42 = .ok (.i2l, 1) := by decide +kernel
theorem d_Whole_becomeProduct_43 : decode b_Whole_becomeProduct 43 = .ok (.ldc2_w 35, 3) := by decide +kernel
theorem d_Whole_becomeProduct_46 : decode b_Whole_becomeProduct 46 = .ok (.land, 1) := by decide +kernel
theorem d_Whole_becomeProduct_47 : decode b_Whole_becomeProduct 47 = .ok (.invokestatic 40, 3) := by decide +kernel
theorem d_Whole_becomeProduct_50 : decode b_Whole_becomeProduct 50 = .ok (.lstore 4, 2) := by decide +kernel
theorem d_Whole_becomeProduct_52 : decode b_Whole_becomeProduct 52 = .ok (.aload_n 0, 1) := by decide +kernel
theorem d_Whole_becomeProduct_53 : decode b_Whole_becomeProduct 53 = .ok (.getfield 9, 3) := by decide +kernel
theorem d_Whole_becomeProduct_56 : decode b_Whole_becomeProduct 56 = .ok (.iload_n 3, 1) := by decide +kernel
theorem d_Whole_becomeProduct_57 : decode b_Whole_becomeProduct 57 = .ok (.aload_n 2, 1) := by decide +kernel
theorem d_Whole_becomeProduct_58 : decode b_Whole_becomeProduct 58 = .ok (.getfield 15, 3) := by decide +kernel
theorem d_Whole_becomeProduct_61 : decode b_Whole_becomeProduct 61 = .ok (.iadd, 1) := by decide +kernel
theorem d_Whole_becomeProduct_62 : decode b_Whole_becomeProduct 62 = .ok (.lload 4, 2) := by decide +kernel
theorem d_Whole_becomeProduct_64 : decode b_Whole_becomeProduct 64 = .ok (.l2i, 1) := by decide +kernel
theorem d_Whole_becomeProduct_65 : decode b_Whole_becomeProduct 65 = .ok (.iastore, 1) := by decide +kernel
theorem d_Whole_becomeProduct_66 : decode b_Whole_becomeProduct 66 = .ok (.iinc 3 1, 3) := by decide +kernel
theorem d_Whole_becomeProduct_69 : decode b_Whole_becomeProduct 69 = .ok (.goto (-63), 3) := by decide +kernel
theorem d_Whole_becomeProduct_72 : decode b_Whole_becomeProduct 72 = .ok (.aload_n 0, 1) := by decide +kernel
theorem d_Whole_becomeProduct_73 : decode b_Whole_becomeProduct 73 = .ok (.aload_n 1, 1) := by decide +kernel
theorem d_Whole_becomeProduct_74 : decode b_Whole_becomeProduct 74 = .ok (.getfield 15, 3) := by decide +kernel
theorem d_Whole_becomeProduct_77 : decode b_Whole_becomeProduct 77 = .ok (.aload_n 2, 1) := by decide +kernel
theorem d_Whole_becomeProduct_78 : decode b_Whole_becomeProduct 78 = .ok (.getfield 15, 3) := by decide +kernel
theorem d_Whole_becomeProduct_81 : decode b_Whole_becomeProduct 81 = .ok (.iadd, 1) := by decide +kernel
theorem d_Whole_becomeProduct_82 : decode b_Whole_becomeProduct 82 = .ok (.invokevirtual 19, 3) := by decide +kernel
theorem d_Whole_becomeProduct_85 : decode b_Whole_becomeProduct 85 = .ok (.return_, 1) := by decide +kernel
theorem d_Whole_becomeShiftedLeft_0 : decode b_Whole_becomeShiftedLeft 0 = .ok (.iload_n 2, 1) := by decide +kernel
theorem d_Whole_becomeShiftedLeft_1 : decode b_Whole_becomeShiftedLeft 1 = .ok (.iconst 5, 1) := by decide +kernel
theorem d_Whole_becomeShiftedLeft_2 : decode b_Whole_becomeShiftedLeft 2 = .ok (.iushr, 1) := by decide +kernel
theorem d_Whole_becomeShiftedLeft_3 : decode b_Whole_becomeShiftedLeft 3 = .ok (.istore_n 3, 1) := by decide +kernel
theorem d_Whole_becomeShiftedLeft_4 : decode b_Whole_becomeShiftedLeft 4 = .ok (.iload_n 2, 1) := by decide +kernel
theorem d_Whole_becomeShiftedLeft_5 : decode b_Whole_becomeShiftedLeft 5 = .ok (.bipush 31, 2) := by decide +kernel
theorem d_Whole_becomeShiftedLeft_7 : decode b_Whole_becomeShiftedLeft 7 = .ok (.iand, 1) := by decide +kernel
theorem d_Whole_becomeShiftedLeft_8 : decode b_Whole_becomeShiftedLeft 8 = .ok (.istore 4, 2) := by decide +kernel
theorem d_Whole_becomeShiftedLeft_10 : decode b_Whole_becomeShiftedLeft 10 = .ok (.aload_n 0, 1) := by decide +kernel
theorem d_Whole_becomeShiftedLeft_11 : decode b_Whole_becomeShiftedLeft 11 = .ok (.invokevirtual 37, 3) := by decide +kernel
theorem d_Whole_becomeShiftedLeft_14 : decode b_Whole_becomeShiftedLeft 14 = .ok (.lconst 0, 1) := by decide +kernel
theorem d_Whole_becomeShiftedLeft_15 : decode b_Whole_becomeShiftedLeft 15 = .ok (.lstore 5, 2) := by decide +kernel
theorem d_Whole_becomeShiftedLeft_17 : decode b_Whole_becomeShiftedLeft 17 = .ok (.iconst 0, 1) := by decide +kernel
theorem d_Whole_becomeShiftedLeft_18 : decode b_Whole_becomeShiftedLeft 18 = .ok (.istore 7, 2) := by decide +kernel
theorem d_Whole_becomeShiftedLeft_20 : decode b_Whole_becomeShiftedLeft 20 = .ok (.iload 7, 2) := by decide +kernel
theorem d_Whole_becomeShiftedLeft_22 : decode b_Whole_becomeShiftedLeft 22 = .ok (.aload_n 1, 1) := by decide +kernel
theorem d_Whole_becomeShiftedLeft_23 : decode b_Whole_becomeShiftedLeft 23 = .ok (.getfield 15, 3) := by decide +kernel
theorem d_Whole_becomeShiftedLeft_26 : decode b_Whole_becomeShiftedLeft 26 = .ok (.if_icmp .ge 48, 3) := by decide +kernel
theorem d_Whole_becomeShiftedLeft_29 : decode b_Whole_becomeShiftedLeft 29 = .ok (.lload 5, 2) := by decide +kernel
theorem d_Whole_becomeShiftedLeft_31 : decode b_Whole_becomeShiftedLeft 31 = .ok (.aload_n 1, 1) := by decide +kernel
theorem d_Whole_becomeShiftedLeft_32 : decode b_Whole_becomeShiftedLeft 32 = .ok (.getfield 9, 3) := by decide +kernel
theorem d_Whole_becomeShiftedLeft_35 : decode b_Whole_becomeShiftedLeft 35 = .ok (.iload 7, 2) := by decide +kernel
theorem d_Whole_becomeShiftedLeft_37 : decode b_Whole_becomeShiftedLeft 37 = .ok (.iaload, 1) := by decide +kernel
theorem d_Whole_becomeShiftedLeft_38 : decode b_Whole_becomeShiftedLeft 38 = .ok (.i2l, 1) := by decide +kernel
theorem d_Whole_becomeShiftedLeft_39 : decode b_Whole_becomeShiftedLeft 39 = .ok (.ldc2_w 35, 3) := by decide +kernel
theorem d_Whole_becomeShiftedLeft_42 : decode b_Whole_becomeShiftedLeft 42 = .ok (.land, 1) := by decide +kernel
theorem d_Whole_becomeShiftedLeft_43 : decode b_Whole_becomeShiftedLeft 43 = .ok (.iload 4, 2) := by decide +kernel
theorem d_Whole_becomeShiftedLeft_45 : decode b_Whole_becomeShiftedLeft 45 = .ok (.lshl, 1) := by decide +kernel
theorem d_Whole_becomeShiftedLeft_46 : decode b_Whole_becomeShiftedLeft 46 = .ok (.lor, 1) := by decide +kernel
theorem d_Whole_becomeShiftedLeft_47 : decode b_Whole_becomeShiftedLeft 47 = .ok (.lstore 5, 2) := by decide +kernel
theorem d_Whole_becomeShiftedLeft_49 : decode b_Whole_becomeShiftedLeft 49 = .ok (.aload_n 0, 1) := by decide +kernel
theorem d_Whole_becomeShiftedLeft_50 : decode b_Whole_becomeShiftedLeft 50 = .ok (.getfield 9, 3) := by decide +kernel
theorem d_Whole_becomeShiftedLeft_53 : decode b_Whole_becomeShiftedLeft 53 = .ok (.iload 7, 2) := by decide +kernel
theorem d_Whole_becomeShiftedLeft_55 : decode b_Whole_becomeShiftedLeft 55 = .ok (.iload_n 3, 1) := by decide +kernel
theorem d_Whole_becomeShiftedLeft_56 : decode b_Whole_becomeShiftedLeft 56 = .ok (.iadd, 1) := by decide +kernel
theorem d_Whole_becomeShiftedLeft_57 : decode b_Whole_becomeShiftedLeft 57 = .ok (.lload 5, 2) := by decide +kernel
theorem d_Whole_becomeShiftedLeft_59 : decode b_Whole_becomeShiftedLeft 59 = .ok (.l2i, 1) := by decide +kernel
theorem d_Whole_becomeShiftedLeft_60 : decode b_Whole_becomeShiftedLeft 60 = .ok (.iastore, 1) := by decide +kernel
theorem d_Whole_becomeShiftedLeft_61 : decode b_Whole_becomeShiftedLeft 61 = .ok (.lload 5, 2) := by decide +kernel
theorem d_Whole_becomeShiftedLeft_63 : decode b_Whole_becomeShiftedLeft 63 = .ok (.bipush 32, 2) := by decide +kernel
theorem d_Whole_becomeShiftedLeft_65 : decode b_Whole_becomeShiftedLeft 65 = .ok (.lushr, 1) := by decide +kernel
theorem d_Whole_becomeShiftedLeft_66 : decode b_Whole_becomeShiftedLeft 66 = .ok (.lstore 5, 2) := by decide +kernel
theorem d_Whole_becomeShiftedLeft_68 : decode b_Whole_becomeShiftedLeft 68 = .ok (.iinc 7 1, 3) := by decide +kernel
theorem d_Whole_becomeShiftedLeft_71 : decode b_Whole_becomeShiftedLeft 71 = .ok (.goto (-51), 3) := by decide +kernel
theorem d_Whole_becomeShiftedLeft_74 : decode b_Whole_becomeShiftedLeft 74 = .ok (.aload_n 0, 1) := by decide +kernel
theorem d_Whole_becomeShiftedLeft_75 : decode b_Whole_becomeShiftedLeft 75 = .ok (.getfield 9, 3) := by decide +kernel
theorem d_Whole_becomeShiftedLeft_78 : decode b_Whole_becomeShiftedLeft 78 = .ok (.aload_n 1, 1) := by decide +kernel
theorem d_Whole_becomeShiftedLeft_79 : decode b_Whole_becomeShiftedLeft 79 = .ok (.getfield 15, 3) := by decide +kernel
theorem d_Whole_becomeShiftedLeft_82 : decode b_Whole_becomeShiftedLeft 82 = .ok (.iload_n 3, 1) := by decide +kernel
theorem d_Whole_becomeShiftedLeft_83 : decode b_Whole_becomeShiftedLeft 83 = .ok (.iadd, 1) := by decide +kernel
theorem d_Whole_becomeShiftedLeft_84 : decode b_Whole_becomeShiftedLeft 84 = .ok (.lload 5, 2) := by decide +kernel
theorem d_Whole_becomeShiftedLeft_86 : decode b_Whole_becomeShiftedLeft 86 = .ok (.l2i, 1) := by decide +kernel
theorem d_Whole_becomeShiftedLeft_87 : decode b_Whole_becomeShiftedLeft 87 = .ok (.iastore, 1) := by decide +kernel
theorem d_Whole_becomeShiftedLeft_88 : decode b_Whole_becomeShiftedLeft 88 = .ok (.aload_n 0, 1) := by decide +kernel
theorem d_Whole_becomeShiftedLeft_89 : decode b_Whole_becomeShiftedLeft 89 = .ok (.aload_n 1, 1) := by decide +kernel
theorem d_Whole_becomeShiftedLeft_90 : decode b_Whole_becomeShiftedLeft 90 = .ok (.getfield 15, 3) := by decide +kernel
theorem d_Whole_becomeShiftedLeft_93 : decode b_Whole_becomeShiftedLeft 93 = .ok (.iload_n 3, 1) := by decide +kernel
theorem d_Whole_becomeShiftedLeft_94 : decode b_Whole_becomeShiftedLeft 94 = .ok (.iadd, 1) := by decide +kernel
theorem d_Whole_becomeShiftedLeft_95 : decode b_Whole_becomeShiftedLeft 95 = .ok (.iconst 1, 1) := by decide +kernel
theorem d_Whole_becomeShiftedLeft_96 : decode b_Whole_becomeShiftedLeft 96 = .ok (.iadd, 1) := by decide +kernel
theorem d_Whole_becomeShiftedLeft_97 : decode b_Whole_becomeShiftedLeft 97 = .ok (.invokevirtual 19, 3) := by decide +kernel
theorem d_Whole_becomeShiftedLeft_100 : decode b_Whole_becomeShiftedLeft 100 = .ok (.return_, 1) := by decide +kernel
theorem d_Whole_becomeShiftedRight_0 : decode b_Whole_becomeShiftedRight 0 = .ok (.iload_n 2, 1) := by decide +kernel
theorem d_Whole_becomeShiftedRight_1 : decode b_Whole_becomeShiftedRight 1 = .ok (.iconst 5, 1) := by decide +kernel
theorem d_Whole_becomeShiftedRight_2 : decode b_Whole_becomeShiftedRight 2 = .ok (.iushr, 1) := by decide +kernel
theorem d_Whole_becomeShiftedRight_3 : decode b_Whole_becomeShiftedRight 3 = .ok (.istore_n 3, 1) := by decide +kernel
theorem d_Whole_becomeShiftedRight_4 : decode b_Whole_becomeShiftedRight 4 = .ok (.iload_n 2, 1) := by decide +kernel
theorem d_Whole_becomeShiftedRight_5 : decode b_Whole_becomeShiftedRight 5 = .ok (.bipush 31, 2) := by decide +kernel
theorem d_Whole_becomeShiftedRight_7 : decode b_Whole_becomeShiftedRight 7 = .ok (.iand, 1) := by decide +kernel
theorem d_Whole_becomeShiftedRight_8 : decode b_Whole_becomeShiftedRight 8 = .ok (.istore 4, 2) := by decide +kernel
theorem d_Whole_becomeShiftedRight_10 : decode b_Whole_becomeShiftedRight 10 = .ok (.iconst 0, 1) := by decide +kernel
theorem d_Whole_becomeShiftedRight_11 : decode b_Whole_becomeShiftedRight 11 = .ok (.aload_n 1, 1) := by decide +kernel
theorem d_Whole_becomeShiftedRight_12 : decode b_Whole_becomeShiftedRight 12 = .ok (.getfield 15, 3) := by decide +kernel
theorem d_Whole_becomeShiftedRight_15 : decode b_Whole_becomeShiftedRight 15 = .ok (.iload_n 3, 1) := by decide +kernel
theorem d_Whole_becomeShiftedRight_16 : decode b_Whole_becomeShiftedRight 16 = .ok (.isub, 1) := by decide +kernel
theorem d_Whole_becomeShiftedRight_17 : decode b_Whole_becomeShiftedRight 17 = .ok (.invokestatic 29, 3) := by decide +kernel
theorem d_Whole_becomeShiftedRight_20 : decode b_Whole_becomeShiftedRight 20 = .ok (.istore 5, 2) := by decide +kernel
theorem d_Whole_becomeShiftedRight_22 : decode b_Whole_becomeShiftedRight 22 = .ok (.iconst 0, 1) := by decide +kernel
theorem d_Whole_becomeShiftedRight_23 : decode b_Whole_becomeShiftedRight 23 = .ok (.istore 6, 2) := by decide +kernel
theorem d_Whole_becomeShiftedRight_25 : decode b_Whole_becomeShiftedRight 25 = .ok (.iload 6, 2) := by decide +kernel
theorem d_Whole_becomeShiftedRight_27 : decode b_Whole_becomeShiftedRight 27 = .ok (.iload 5, 2) := by decide +kernel
theorem d_Whole_becomeShiftedRight_29 : decode b_Whole_becomeShiftedRight 29 = .ok (.if_icmp .ge 54, 3) := by decide +kernel
theorem d_Whole_becomeShiftedRight_32 : decode b_Whole_becomeShiftedRight 32 = .ok (.aload_n 1, 1) := by decide +kernel
theorem d_Whole_becomeShiftedRight_33 : decode b_Whole_becomeShiftedRight 33 = .ok (.getfield 9, 3) := by decide +kernel
theorem d_Whole_becomeShiftedRight_36 : decode b_Whole_becomeShiftedRight 36 = .ok (.iload 6, 2) := by decide +kernel
theorem d_Whole_becomeShiftedRight_38 : decode b_Whole_becomeShiftedRight 38 = .ok (.iload_n 3, 1) := by decide +kernel
theorem d_Whole_becomeShiftedRight_39 : decode b_Whole_becomeShiftedRight 39 = .ok (.iadd, 1) := by decide +kernel
theorem d_Whole_becomeShiftedRight_40 : decode b_Whole_becomeShiftedRight 40 = .ok (.iconst 1, 1) := by decide +kernel
theorem d_Whole_becomeShiftedRight_41 : decode b_Whole_becomeShiftedRight 41 = .ok (.iadd, 1) := by decide +kernel
theorem d_Whole_becomeShiftedRight_42 : decode b_Whole_becomeShiftedRight 42 = .ok (.iaload, 1) := by decide +kernel
theorem d_Whole_becomeShiftedRight_43 : decode b_Whole_becomeShiftedRight 43 = .ok (.i2l, 1) := by decide +kernel
theorem d_Whole_becomeShiftedRight_44 : decode b_Whole_becomeShiftedRight 44 = .ok (.bipush 32, 2) := by decide +kernel
theorem d_Whole_becomeShiftedRight_46 : decode b_Whole_becomeShiftedRight 46 = .ok (.lshl, 1) := by decide +kernel
theorem d_Whole_becomeShiftedRight_47 : decode b_Whole_becomeShiftedRight 47 = .ok (.aload_n 1, 1) := by decide +kernel
theorem d_Whole_becomeShiftedRight_48 : decode b_Whole_becomeShiftedRight 48 = .ok (.getfield 9, 3) := by decide +kernel
theorem d_Whole_becomeShiftedRight_51 : decode b_Whole_becomeShiftedRight 51 = .ok (.iload 6, 2) := by decide +kernel
theorem d_Whole_becomeShiftedRight_53 : decode b_Whole_becomeShiftedRight 53 = .ok (.iload_n 3, 1) := by decide +kernel
theorem d_Whole_becomeShiftedRight_54 : decode b_Whole_becomeShiftedRight 54 = .ok (.iadd, 1) := by decide +kernel
theorem d_Whole_becomeShiftedRight_55 : decode b_Whole_becomeShiftedRight 55 = .ok (.iaload, 1) := by decide +kernel
theorem d_Whole_becomeShiftedRight_56 : decode b_Whole_becomeShiftedRight 56 = .ok (.i2l, 1) := by decide +kernel
theorem d_Whole_becomeShiftedRight_57 : decode b_Whole_becomeShiftedRight 57 = .ok (.ldc2_w 35, 3) := by decide +kernel
theorem d_Whole_becomeShiftedRight_60 : decode b_Whole_becomeShiftedRight 60 = .ok (.land, 1) := by decide +kernel
theorem d_Whole_becomeShiftedRight_61 : decode b_Whole_becomeShiftedRight 61 = .ok (.lor, 1) := by decide +kernel
theorem d_Whole_becomeShiftedRight_62 : decode b_Whole_becomeShiftedRight 62 = .ok (.lstore 7, 2) := by decide +kernel
theorem d_Whole_becomeShiftedRight_64 : decode b_Whole_becomeShiftedRight 64 = .ok (.aload_n 0, 1) := by decide +kernel
theorem d_Whole_becomeShiftedRight_65 : decode b_Whole_becomeShiftedRight 65 = .ok (.getfield 9, 3) := by decide +kernel
theorem d_Whole_becomeShiftedRight_68 : decode b_Whole_becomeShiftedRight 68 = .ok (.iload 6, 2) := by decide +kernel
theorem d_Whole_becomeShiftedRight_70 : decode b_Whole_becomeShiftedRight 70 = .ok (.lload 7, 2) := by decide +kernel
theorem d_Whole_becomeShiftedRight_72 : decode b_Whole_becomeShiftedRight 72 = .ok (.iload 4, 2) := by decide +kernel
theorem d_Whole_becomeShiftedRight_74 : decode b_Whole_becomeShiftedRight 74 = .ok (.lushr, 1) := by decide +kernel
theorem d_Whole_becomeShiftedRight_75 : decode b_Whole_becomeShiftedRight 75 = .ok (.l2i, 1) := by decide +kernel
theorem d_Whole_becomeShiftedRight_76 : decode b_Whole_becomeShiftedRight 76 = .ok (.iastore, 1) := by decide +kernel
theorem d_Whole_becomeShiftedRight_77 : decode b_Whole_becomeShiftedRight 77 = .ok (.iinc 6 1, 3) := by decide +kernel
theorem d_Whole_becomeShiftedRight_80 : decode b_Whole_becomeShiftedRight 80 = .ok (.goto (-55), 3) := by decide +kernel
theorem d_Whole_becomeShiftedRight_83 : decode b_Whole_becomeShiftedRight 83 = .ok (.aload_n 0, 1) := by decide +kernel
theorem d_Whole_becomeShiftedRight_84 : decode b_Whole_becomeShiftedRight 84 = .ok (.iload 5, 2) := by decide +kernel
theorem d_Whole_becomeShiftedRight_86 : decode b_Whole_becomeShiftedRight 86 = .ok (.invokevirtual 19, 3) := by decide +kernel
theorem d_Whole_becomeShiftedRight_89 : decode b_Whole_becomeShiftedRight 89 = .ok (.return_, 1) := by decide +kernel
theorem d_Whole_becomeSum_0 : decode b_Whole_becomeSum 0 = .ok (.aload_n 1, 1) := by decide +kernel
theorem d_Whole_becomeSum_1 : decode b_Whole_becomeSum 1 = .ok (.getfield 15, 3) := by decide +kernel
theorem d_Whole_becomeSum_4 : decode b_Whole_becomeSum 4 = .ok (.aload_n 2, 1) := by decide +kernel
theorem d_Whole_becomeSum_5 : decode b_Whole_becomeSum 5 = .ok (.getfield 15, 3) := by decide +kernel
theorem d_Whole_becomeSum_8 : decode b_Whole_becomeSum 8 = .ok (.invokestatic 29, 3) := by decide +kernel
theorem d_Whole_becomeSum_11 : decode b_Whole_becomeSum 11 = .ok (.istore_n 3, 1) := by decide +kernel
theorem d_Whole_becomeSum_12 : decode b_Whole_becomeSum 12 = .ok (.lconst 0, 1) := by decide +kernel
theorem d_Whole_becomeSum_13 : decode b_Whole_becomeSum 13 = .ok (.lstore 4, 2) := by decide +kernel
theorem d_Whole_becomeSum_15 : decode b_Whole_becomeSum 15 = .ok (.iconst 0, 1) := by decide +kernel
theorem d_Whole_becomeSum_16 : decode b_Whole_becomeSum 16 = .ok (.istore 6, 2) := by decide +kernel
theorem d_Whole_becomeSum_18 : decode b_Whole_becomeSum 18 = .ok (.iload 6, 2) := by decide +kernel
theorem d_Whole_becomeSum_20 : decode b_Whole_becomeSum 20 = .ok (.iload_n 3, 1) := by decide +kernel
theorem d_Whole_becomeSum_21 : decode b_Whole_becomeSum 21 = .ok (.if_icmp .ge 56, 3) := by decide +kernel
theorem d_Whole_becomeSum_24 : decode b_Whole_becomeSum 24 = .ok (.lload 4, 2) := by decide +kernel
theorem d_Whole_becomeSum_26 : decode b_Whole_becomeSum 26 = .ok (.aload_n 1, 1) := by decide +kernel
theorem d_Whole_becomeSum_27 : decode b_Whole_becomeSum 27 = .ok (.getfield 9, 3) := by decide +kernel
theorem d_Whole_becomeSum_30 : decode b_Whole_becomeSum 30 = .ok (.iload 6, 2) := by decide +kernel
theorem d_Whole_becomeSum_32 : decode b_Whole_becomeSum 32 = .ok (.iaload, 1) := by decide +kernel
theorem d_Whole_becomeSum_33 : decode b_Whole_becomeSum 33 = .ok (.i2l, 1) := by decide +kernel
theorem d_Whole_becomeSum_34 : decode b_Whole_becomeSum 34 = .ok (.ldc2_w 35, 3) := by decide +kernel
theorem d_Whole_becomeSum_37 : decode b_Whole_becomeSum 37 = .ok (.land, 1) := by decide +kernel
theorem d_Whole_becomeSum_38 : decode b_Whole_becomeSum 38 = .ok (.aload_n 2, 1) := by decide +kernel
theorem d_Whole_becomeSum_39 : decode b_Whole_becomeSum 39 = .ok (.getfield 9, 3) := by decide +kernel
theorem d_Whole_becomeSum_42 : decode b_Whole_becomeSum 42 = .ok (.iload 6, 2) := by decide +kernel
theorem d_Whole_becomeSum_44 : decode b_Whole_becomeSum 44 = .ok (.iaload, 1) := by decide +kernel
theorem d_Whole_becomeSum_45 : decode b_Whole_becomeSum 45 = .ok (.i2l, 1) := by decide +kernel
theorem d_Whole_becomeSum_46 : decode b_Whole_becomeSum 46 = .ok (.ldc2_w 35, 3) := by decide +kernel
theorem d_Whole_becomeSum_49 : decode b_Whole_becomeSum 49 = .ok (.land, 1) := by decide +kernel
theorem d_Whole_becomeSum_50 : decode b_Whole_becomeSum 50 = .ok (.ladd, 1) := by decide +kernel
theorem d_Whole_becomeSum_51 : decode b_Whole_becomeSum 51 = .ok (.ladd, 1) := by decide +kernel
theorem d_Whole_becomeSum_52 : decode b_Whole_becomeSum 52 = .ok (.lstore 4, 2) := by decide +kernel
theorem d_Whole_becomeSum_54 : decode b_Whole_becomeSum 54 = .ok (.aload_n 0, 1) := by decide +kernel
theorem d_Whole_becomeSum_55 : decode b_Whole_becomeSum 55 = .ok (.getfield 9, 3) := by decide +kernel
theorem d_Whole_becomeSum_58 : decode b_Whole_becomeSum 58 = .ok (.iload 6, 2) := by decide +kernel
theorem d_Whole_becomeSum_60 : decode b_Whole_becomeSum 60 = .ok (.lload 4, 2) := by decide +kernel
theorem d_Whole_becomeSum_62 : decode b_Whole_becomeSum 62 = .ok (.l2i, 1) := by decide +kernel
theorem d_Whole_becomeSum_63 : decode b_Whole_becomeSum 63 = .ok (.iastore, 1) := by decide +kernel
theorem d_Whole_becomeSum_64 : decode b_Whole_becomeSum 64 = .ok (.lload 4, 2) := by decide +kernel
theorem d_Whole_becomeSum_66 : decode b_Whole_becomeSum 66 = .ok (.bipush 32, 2) := by decide +kernel
theorem d_Whole_becomeSum_68 : decode b_Whole_becomeSum 68 = .ok (.lushr, 1) := by decide +kernel
theorem d_Whole_becomeSum_69 : decode b_Whole_becomeSum 69 = .ok (.lstore 4, 2) := by decide +kernel
theorem d_Whole_becomeSum_71 : decode b_Whole_becomeSum 71 = .ok (.iinc 6 1, 3) := by decide +kernel
theorem d_Whole_becomeSum_74 : decode b_Whole_becomeSum 74 = .ok (.goto (-56), 3) := by decide +kernel
theorem d_Whole_becomeSum_77 : decode b_Whole_becomeSum 77 = .ok (.aload_n 0, 1) := by decide +kernel
theorem d_Whole_becomeSum_78 : decode b_Whole_becomeSum 78 = .ok (.getfield 9, 3) := by decide +kernel
theorem d_Whole_becomeSum_81 : decode b_Whole_becomeSum 81 = .ok (.iload_n 3, 1) := by decide +kernel
theorem d_Whole_becomeSum_82 : decode b_Whole_becomeSum 82 = .ok (.lload 4, 2) := by decide +kernel
theorem d_Whole_becomeSum_84 : decode b_Whole_becomeSum 84 = .ok (.l2i, 1) := by decide +kernel
theorem d_Whole_becomeSum_85 : decode b_Whole_becomeSum 85 = .ok (.iastore, 1) := by decide +kernel
theorem d_Whole_becomeSum_86 : decode b_Whole_becomeSum 86 = .ok (.aload_n 0, 1) := by decide +kernel
theorem d_Whole_becomeSum_87 : decode b_Whole_becomeSum 87 = .ok (.iload_n 3, 1) := by decide +kernel
theorem d_Whole_becomeSum_88 : decode b_Whole_becomeSum 88 = .ok (.iconst 1, 1) := by decide +kernel
theorem d_Whole_becomeSum_89 : decode b_Whole_becomeSum 89 = .ok (.iadd, 1) := by decide +kernel
theorem d_Whole_becomeSum_90 : decode b_Whole_becomeSum 90 = .ok (.invokevirtual 19, 3) := by decide +kernel
theorem d_Whole_becomeSum_93 : decode b_Whole_becomeSum 93 = .ok (.return_, 1) := by decide +kernel
theorem d_Whole_clear_0 : decode b_Whole_clear 0 = .ok (.aload_n 0, 1) := by decide +kernel
theorem d_Whole_clear_1 : decode b_Whole_clear 1 = .ok (.iconst 0, 1) := by decide +kernel
theorem d_Whole_clear_2 : decode b_Whole_clear 2 = .ok (.invokevirtual 19, 3) := by decide +kernel
theorem d_Whole_clear_5 : decode b_Whole_clear 5 = .ok (.return_, 1) := by decide +kernel
theorem d_Whole_countOnes_0 : decode b_Whole_countOnes 0 = .ok (.iconst 0, 1) := by decide +kernel
theorem d_Whole_countOnes_1 : decode b_Whole_countOnes 1 = .ok (.istore_n 1, 1) := by decide +kernel
theorem d_Whole_countOnes_2 : decode b_Whole_countOnes 2 = .ok (.iconst 0, 1) := by decide +kernel
theorem d_Whole_countOnes_3 : decode b_Whole_countOnes 3 = .ok (.istore_n 2, 1) := by decide +kernel
theorem d_Whole_countOnes_4 : decode b_Whole_countOnes 4 = .ok (.iload_n 2, 1) := by decide +kernel
theorem d_Whole_countOnes_5 : decode b_Whole_countOnes 5 = .ok (.aload_n 0, 1) := by decide +kernel
theorem d_Whole_countOnes_6 : decode b_Whole_countOnes 6 = .ok (.getfield 15, 3) := by decide +kernel
theorem d_Whole_countOnes_9 : decode b_Whole_countOnes 9 = .ok (.if_icmp .ge 21, 3) := by decide +kernel
theorem d_Whole_countOnes_12 : decode b_Whole_countOnes 12 = .ok (.iload_n 1, 1) := by decide +kernel
theorem d_Whole_countOnes_13 : decode b_Whole_countOnes 13 = .ok (.aload_n 0, 1) := by decide +kernel
theorem d_Whole_countOnes_14 : decode b_Whole_countOnes 14 = .ok (.getfield 9, 3) := by decide +kernel
theorem d_Whole_countOnes_17 : decode b_Whole_countOnes 17 = .ok (.iload_n 2, 1) := by decide +kernel
theorem d_Whole_countOnes_18 : decode b_Whole_countOnes 18 = .ok (.iaload, 1) := by decide +kernel
theorem d_Whole_countOnes_19 : decode b_Whole_countOnes 19 = .ok (.invokestatic 56, 3) := by decide +kernel
theorem d_Whole_countOnes_22 : decode b_Whole_countOnes 22 = .ok (.iadd, 1) := by decide +kernel
theorem d_Whole_countOnes_23 : decode b_Whole_countOnes 23 = .ok (.istore_n 1, 1) := by decide +kernel
theorem d_Whole_countOnes_24 : decode b_Whole_countOnes 24 = .ok (.iinc 2 1, 3) := by decide +kernel
theorem d_Whole_countOnes_27 : decode b_Whole_countOnes 27 = .ok (.goto (-23), 3) := by decide +kernel
theorem d_Whole_countOnes_30 : decode b_Whole_countOnes 30 = .ok (.iload_n 1, 1) := by decide +kernel
theorem d_Whole_countOnes_31 : decode b_Whole_countOnes 31 = .ok (.ireturn, 1) := by decide +kernel
theorem d_Whole_fillLowestPair_0 : decode b_Whole_fillLowestPair 0 = .ok (.aload_n 0, 1) := by decide +kernel
theorem d_Whole_fillLowestPair_1 : decode b_Whole_fillLowestPair 1 = .ok (.getfield 9, 3) := by decide +kernel
theorem d_Whole_fillLowestPair_4 : decode b_Whole_fillLowestPair 4 = .ok (.iconst 0, 1) := by decide +kernel
theorem d_Whole_fillLowestPair_5 : decode b_Whole_fillLowestPair 5 = .ok (.lload_n 1, 1) := by decide +kernel
theorem d_Whole_fillLowestPair_6 : decode b_Whole_fillLowestPair 6 = .ok (.l2i, 1) := by decide +kernel
theorem d_Whole_fillLowestPair_7 : decode b_Whole_fillLowestPair 7 = .ok (.iastore, 1) := by decide +kernel
theorem d_Whole_fillLowestPair_8 : decode b_Whole_fillLowestPair 8 = .ok (.aload_n 0, 1) := by decide +kernel
theorem d_Whole_fillLowestPair_9 : decode b_Whole_fillLowestPair 9 = .ok (.getfield 9, 3) := by decide +kernel
theorem d_Whole_fillLowestPair_12 : decode b_Whole_fillLowestPair 12 = .ok (.iconst 1, 1) := by decide +kernel
theorem d_Whole_fillLowestPair_13 : decode b_Whole_fillLowestPair 13 = .ok (.lload_n 1, 1) := by decide +kernel
theorem d_Whole_fillLowestPair_14 : decode b_Whole_fillLowestPair 14 = .ok (.bipush 32, 2) := by decide +kernel
theorem d_Whole_fillLowestPair_16 : decode b_Whole_fillLowestPair 16 = .ok (.lushr, 1) := by decide +kernel
theorem d_Whole_fillLowestPair_17 : decode b_Whole_fillLowestPair 17 = .ok (.l2i, 1) := by decide +kernel
theorem d_Whole_fillLowestPair_18 : decode b_Whole_fillLowestPair 18 = .ok (.iastore, 1) := by decide +kernel
theorem d_Whole_fillLowestPair_19 : decode b_Whole_fillLowestPair 19 = .ok (.aload_n 0, 1) := by decide +kernel
theorem d_Whole_fillLowestPair_20 : decode b_Whole_fillLowestPair 20 = .ok (.aload_n 0, 1) := by decide +kernel
theorem d_Whole_fillLowestPair_21 : decode b_Whole_fillLowestPair 21 = .ok (.getfield 15, 3) := by decide +kernel
theorem d_Whole_fillLowestPair_24 : decode b_Whole_fillLowestPair 24 = .ok (.iconst 2, 1) := by decide +kernel
theorem d_Whole_fillLowestPair_25 : decode b_Whole_fillLowestPair 25 = .ok (.invokestatic 29, 3) := by decide +kernel
theorem d_Whole_fillLowestPair_28 : decode b_Whole_fillLowestPair 28 = .ok (.invokevirtual 19, 3) := by decide +kernel
theorem d_Whole_fillLowestPair_31 : decode b_Whole_fillLowestPair 31 = .ok (.return_, 1) := by decide +kernel
theorem d_Whole_init_0 : decode b_Whole_init 0 = .ok (.aload_n 0, 1) := by decide +kernel
theorem d_Whole_init_1 : decode b_Whole_init 1 = .ok (.invokespecial 3, 3) := by decide +kernel
theorem d_Whole_init_4 : decode b_Whole_init 4 = .ok (.aload_n 0, 1) := by decide +kernel
theorem d_Whole_init_5 : decode b_Whole_init 5 = .ok (.sipush 2050, 3) := by decide +kernel
theorem d_Whole_init_8 : decode b_Whole_init 8 = .ok (.newarray .int, 2) := by decide +kernel
theorem d_Whole_init_10 : decode b_Whole_init 10 = .ok (.putfield 9, 3) := by decide +kernel
theorem d_Whole_init_13 : decode b_Whole_init 13 = .ok (.aload_n 0, 1) := by decide +kernel
theorem d_Whole_init_14 : decode b_Whole_init 14 = .ok (.iconst 0, 1) := by decide +kernel
theorem d_Whole_init_15 : decode b_Whole_init 15 = .ok (.putfield 15, 3) := by decide +kernel
theorem d_Whole_init_18 : decode b_Whole_init 18 = .ok (.return_, 1) := by decide +kernel
theorem d_Whole_keepLowest_0 : decode b_Whole_keepLowest 0 = .ok (.iload_n 1, 1) := by decide +kernel
theorem d_Whole_keepLowest_1 : decode b_Whole_keepLowest 1 = .ok (.aload_n 0, 1) := by decide +kernel
theorem d_Whole_keepLowest_2 : decode b_Whole_keepLowest 2 = .ok (.invokevirtual 46, 3) := by decide +kernel
theorem d_Whole_keepLowest_5 : decode b_Whole_keepLowest 5 = .ok (.if_icmp .ge 31, 3) := by decide +kernel
theorem d_Whole_keepLowest_8 : decode b_Whole_keepLowest 8 = .ok (.iload_n 1, 1) := by decide +kernel
theorem d_Whole_keepLowest_9 : decode b_Whole_keepLowest 9 = .ok (.iconst 5, 1) := by decide +kernel
theorem d_Whole_keepLowest_10 : decode b_Whole_keepLowest 10 = .ok (.iushr, 1) := by decide +kernel
theorem d_Whole_keepLowest_11 : decode b_Whole_keepLowest 11 = .ok (.istore_n 2, 1) := by decide +kernel
theorem d_Whole_keepLowest_12 : decode b_Whole_keepLowest 12 = .ok (.aload_n 0, 1) := by decide +kernel
theorem d_Whole_keepLowest_13 : decode b_Whole_keepLowest 13 = .ok (.getfield 9, 3) := by decide +kernel
theorem d_Whole_keepLowest_16 : decode b_Whole_keepLowest 16 = .ok (.iload_n 2, 1) := by decide +kernel
theorem d_Whole_keepLowest_17 : decode b_Whole_keepLowest 17 = .ok (.dup2, 1) := by decide +kernel
theorem d_Whole_keepLowest_18 : decode b_Whole_keepLowest 18 = .ok (.iaload, 1) := by decide +kernel
theorem d_Whole_keepLowest_19 : decode b_Whole_keepLowest 19 = .ok (.iconst 1, 1) := by decide +kernel
theorem d_Whole_keepLowest_20 : decode b_Whole_keepLowest 20 = .ok (.iload_n 1, 1) := by decide +kernel
theorem d_Whole_keepLowest_21 : decode b_Whole_keepLowest 21 = .ok (.bipush 31, 2) := by decide +kernel
theorem d_Whole_keepLowest_23 : decode b_Whole_keepLowest 23 = .ok (.iand, 1) := by decide +kernel
theorem d_Whole_keepLowest_24 : decode b_Whole_keepLowest 24 = .ok (.ishl, 1) := by decide +kernel
theorem d_Whole_keepLowest_25 : decode b_Whole_keepLowest 25 = .ok (.iconst 1, 1) := by decide +kernel
theorem d_Whole_keepLowest_26 : decode b_Whole_keepLowest 26 = .ok (.isub, 1) := by decide +kernel
theorem d_Whole_keepLowest_27 : decode b_Whole_keepLowest 27 = .ok (.iand, 1) := by decide +kernel
theorem d_Whole_keepLowest_28 : decode b_Whole_keepLowest 28 = .ok (.iastore, 1) := by decide +kernel
theorem d_Whole_keepLowest_29 : decode b_Whole_keepLowest 29 = .ok (.aload_n 0, 1) := by decide +kernel
theorem d_Whole_keepLowest_30 : decode b_Whole_keepLowest 30 = .ok (.iload_n 2, 1) := by decide +kernel
theorem d_Whole_keepLowest_31 : decode b_Whole_keepLowest 31 = .ok (.iconst 1, 1) := by decide +kernel
theorem d_Whole_keepLowest_32 : decode b_Whole_keepLowest 32 = .ok (.iadd, 1) := by decide +kernel
theorem d_Whole_keepLowest_33 : decode b_Whole_keepLowest 33 = .ok (.invokevirtual 19, 3) := by decide +kernel
theorem d_Whole_keepLowest_36 : decode b_Whole_keepLowest 36 = .ok (.return_, 1) := by decide +kernel
theorem d_Whole_lowestOne_0 : decode b_Whole_lowestOne 0 = .ok (.iconst 0, 1) := by decide +kernel
theorem d_Whole_lowestOne_1 : decode b_Whole_lowestOne 1 = .ok (.istore_n 1, 1) := by decide +kernel
theorem d_Whole_lowestOne_2 : decode b_Whole_lowestOne 2 = .ok (.iload_n 1, 1) := by decide +kernel
theorem d_Whole_lowestOne_3 : decode b_Whole_lowestOne 3 = .ok (.aload_n 0, 1) := by decide +kernel
theorem d_Whole_lowestOne_4 : decode b_Whole_lowestOne 4 = .ok (.getfield 15, 3) := by decide +kernel
theorem d_Whole_lowestOne_7 : decode b_Whole_lowestOne 7 = .ok (.if_icmp .ge 33, 3) := by decide +kernel
theorem d_Whole_lowestOne_10 : decode b_Whole_lowestOne 10 = .ok (.aload_n 0, 1) := by decide +kernel
theorem d_Whole_lowestOne_11 : decode b_Whole_lowestOne 11 = .ok (.getfield 9, 3) := by decide +kernel
theorem d_Whole_lowestOne_14 : decode b_Whole_lowestOne 14 = .ok (.iload_n 1, 1) := by decide +kernel
theorem d_Whole_lowestOne_15 : decode b_Whole_lowestOne 15 = .ok (.iaload, 1) := by decide +kernel
theorem d_Whole_lowestOne_16 : decode b_Whole_lowestOne 16 = .ok (.ifCond .eq 18, 3) := by decide +kernel
theorem d_Whole_lowestOne_19 : decode b_Whole_lowestOne 19 = .ok (.bipush 32, 2) := by decide +kernel
theorem d_Whole_lowestOne_21 : decode b_Whole_lowestOne 21 = .ok (.iload_n 1, 1) := by decide +kernel
theorem d_Whole_lowestOne_22 : decode b_Whole_lowestOne 22 = .ok (.imul, 1) := by decide +kernel
theorem d_Whole_lowestOne_23 : decode b_Whole_lowestOne 23 = .ok (.aload_n 0, 1) := by decide +kernel
theorem d_Whole_lowestOne_24 : decode b_Whole_lowestOne 24 = .ok (.getfield 9, 3) := by decide +kernel
theorem d_Whole_lowestOne_27 : decode b_Whole_lowestOne 27 = .ok (.iload_n 1, 1) := by decide +kernel
theorem d_Whole_lowestOne_28 : decode b_Whole_lowestOne 28 = .ok (.iaload, 1) := by decide +kernel
theorem d_Whole_lowestOne_29 : decode b_Whole_lowestOne 29 = .ok (.invokestatic 59, 3) := by decide +kernel
theorem d_Whole_lowestOne_32 : decode b_Whole_lowestOne 32 = .ok (.iadd, 1) := by decide +kernel
theorem d_Whole_lowestOne_33 : decode b_Whole_lowestOne 33 = .ok (.ireturn, 1) := by decide +kernel
theorem d_Whole_lowestOne_34 : decode b_Whole_lowestOne 34 = .ok (.iinc 1 1, 3) := by decide +kernel
theorem d_Whole_lowestOne_37 : decode b_Whole_lowestOne 37 = .ok (.goto (-35), 3) := by decide +kernel
theorem d_Whole_lowestOne_40 : decode b_Whole_lowestOne 40 = .ok (.iconst (-1), 1) := by decide +kernel
theorem d_Whole_lowestOne_41 : decode b_Whole_lowestOne 41 = .ok (.ireturn, 1) := by decide +kernel
theorem d_Whole_order_0 : decode b_Whole_order 0 = .ok (.aload_n 0, 1) := by decide +kernel
theorem d_Whole_order_1 : decode b_Whole_order 1 = .ok (.getfield 15, 3) := by decide +kernel
theorem d_Whole_order_4 : decode b_Whole_order 4 = .ok (.aload_n 1, 1) := by decide +kernel
theorem d_Whole_order_5 : decode b_Whole_order 5 = .ok (.getfield 15, 3) := by decide +kernel
theorem d_Whole_order_8 : decode b_Whole_order 8 = .ok (.if_icmp .eq 20, 3) := by decide +kernel
theorem d_Whole_order_11 : decode b_Whole_order 11 = .ok (.aload_n 0, 1) := by decide +kernel
theorem d_Whole_order_12 : decode b_Whole_order 12 = .ok (.getfield 15, 3) := by decide +kernel
theorem d_Whole_order_15 : decode b_Whole_order 15 = .ok (.aload_n 1, 1) := by decide +kernel
theorem d_Whole_order_16 : decode b_Whole_order 16 = .ok (.getfield 15, 3) := by decide +kernel
theorem d_Whole_order_19 : decode b_Whole_order 19 = .ok (.if_icmp .ge 7, 3) := by decide +kernel
theorem d_Whole_order_22 : decode b_Whole_order 22 = .ok (.iconst (-1), 1) := by decide +kernel
theorem d_Whole_order_23 : decode b_Whole_order 23 = .ok (.goto 4, 3) := by decide +kernel
theorem d_Whole_order_26 : decode b_Whole_order 26 = .ok (.iconst 1, 1) := by decide +kernel
theorem d_Whole_order_27 : decode b_Whole_order 27 = .ok (.ireturn, 1) := by decide +kernel
theorem d_Whole_order_28 : decode b_Whole_order 28 = .ok (.aload_n 0, 1) := by decide +kernel
theorem d_Whole_order_29 : decode b_Whole_order 29 = .ok (.getfield 15, 3) := by decide +kernel
theorem d_Whole_order_32 : decode b_Whole_order 32 = .ok (.iconst 1, 1) := by decide +kernel
theorem d_Whole_order_33 : decode b_Whole_order 33 = .ok (.isub, 1) := by decide +kernel
theorem d_Whole_order_34 : decode b_Whole_order 34 = .ok (.istore_n 2, 1) := by decide +kernel
theorem d_Whole_order_35 : decode b_Whole_order 35 = .ok (.iload_n 2, 1) := by decide +kernel
theorem d_Whole_order_36 : decode b_Whole_order 36 = .ok (.ifCond .lt 56, 3) := by decide +kernel
theorem d_Whole_order_39 : decode b_Whole_order 39 = .ok (.aload_n 0, 1) := by decide +kernel
theorem d_Whole_order_40 : decode b_Whole_order 40 = .ok (.getfield 9, 3) := by decide +kernel
theorem d_Whole_order_43 : decode b_Whole_order 43 = .ok (.iload_n 2, 1) := by decide +kernel
theorem d_Whole_order_44 : decode b_Whole_order 44 = .ok (.iaload, 1) := by decide +kernel
theorem d_Whole_order_45 : decode b_Whole_order 45 = .ok (.aload_n 1, 1) := by decide +kernel
theorem d_Whole_order_46 : decode b_Whole_order 46 = .ok (.getfield 9, 3) := by decide +kernel
theorem d_Whole_order_49 : decode b_Whole_order 49 = .ok (.iload_n 2, 1) := by decide +kernel
theorem d_Whole_order_50 : decode b_Whole_order 50 = .ok (.iaload, 1) := by decide +kernel
theorem d_Whole_order_51 : decode b_Whole_order 51 = .ok (.if_icmp .eq 35, 3) := by decide +kernel
theorem d_Whole_order_54 : decode b_Whole_order 54 = .ok (.aload_n 0, 1) := by decide +kernel
theorem d_Whole_order_55 : decode b_Whole_order 55 = .ok (.getfield 9, 3) := by decide +kernel
theorem d_Whole_order_58 : decode b_Whole_order 58 = .ok (.iload_n 2, 1) := by decide +kernel
theorem d_Whole_order_59 : decode b_Whole_order 59 = .ok (.iaload, 1) := by decide +kernel
theorem d_Whole_order_60 : decode b_Whole_order 60 = .ok (.i2l, 1) := by decide +kernel
theorem d_Whole_order_61 : decode b_Whole_order 61 = .ok (.ldc2_w 35, 3) := by decide +kernel
theorem d_Whole_order_64 : decode b_Whole_order 64 = .ok (.land, 1) := by decide +kernel
theorem d_Whole_order_65 : decode b_Whole_order 65 = .ok (.aload_n 1, 1) := by decide +kernel
theorem d_Whole_order_66 : decode b_Whole_order 66 = .ok (.getfield 9, 3) := by decide +kernel
theorem d_Whole_order_69 : decode b_Whole_order 69 = .ok (.iload_n 2, 1) := by decide +kernel
theorem d_Whole_order_70 : decode b_Whole_order 70 = .ok (.iaload, 1) := by decide +kernel
theorem d_Whole_order_71 : decode b_Whole_order 71 = .ok (.i2l, 1) := by decide +kernel
theorem d_Whole_order_72 : decode b_Whole_order 72 = .ok (.ldc2_w 35, 3) := by decide +kernel
theorem d_Whole_order_75 : decode b_Whole_order 75 = .ok (.land, 1) := by decide +kernel
theorem d_Whole_order_76 : decode b_Whole_order 76 = .ok (.lcmp, 1) := by decide +kernel
theorem d_Whole_order_77 : decode b_Whole_order 77 = .ok (.ifCond .ge 7, 3) := by decide +kernel
theorem d_Whole_order_80 : decode b_Whole_order 80 = .ok (.iconst (-1), 1) := by decide +kernel
theorem d_Whole_order_81 : decode b_Whole_order 81 = .ok (.goto 4, 3) := by decide +kernel
theorem d_Whole_order_84 : decode b_Whole_order 84 = .ok (.iconst 1, 1) := by decide +kernel
theorem d_Whole_order_85 : decode b_Whole_order 85 = .ok (.ireturn, 1) := by decide +kernel
theorem d_Whole_order_86 : decode b_Whole_order 86 = .ok (.iinc 2 (-1), 3) := by decide +kernel
theorem d_Whole_order_89 : decode b_Whole_order 89 = .ok (.goto (-54), 3) := by decide +kernel
theorem d_Whole_order_92 : decode b_Whole_order 92 = .ok (.iconst 0, 1) := by decide +kernel
theorem d_Whole_order_93 : decode b_Whole_order 93 = .ok (.ireturn, 1) := by decide +kernel
theorem d_Whole_remainder_0 : decode b_Whole_remainder 0 = .ok (.lconst 0, 1) := by decide +kernel
theorem d_Whole_remainder_1 : decode b_Whole_remainder 1 = .ok (.lstore_n 2, 1) := by decide +kernel
theorem d_Whole_remainder_2 : decode b_Whole_remainder 2 = .ok (.aload_n 0, 1) := by decide +kernel
theorem d_Whole_remainder_3 : decode b_Whole_remainder 3 = .ok (.getfield 15, 3) := by decide +kernel
theorem d_Whole_remainder_6 : decode b_Whole_remainder 6 = .ok (.iconst 1, 1) := by decide +kernel
theorem d_Whole_remainder_7 : decode b_Whole_remainder 7 = .ok (.isub, 1) := by decide +kernel
theorem d_Whole_remainder_8 : decode b_Whole_remainder 8 = .ok (.istore 4, 2) := by decide +kernel
theorem d_Whole_remainder_10 : decode b_Whole_remainder 10 = .ok (.iload 4, 2) := by decide +kernel
theorem d_Whole_remainder_12 : decode b_Whole_remainder 12 = .ok (.ifCond .lt 30, 3) := by decide +kernel
theorem d_Whole_remainder_15 : decode b_Whole_remainder 15 = .ok (.lload_n 2, 1) := by decide +kernel
theorem d_Whole_remainder_16 : decode b_Whole_remainder 16 = .ok (.bipush 32, 2) := by decide +kernel
theorem d_Whole_remainder_18 : decode b_Whole_remainder 18 = .ok (.lshl, 1) := by decide +kernel
theorem d_Whole_remainder_19 : decode b_Whole_remainder 19 = .ok (.aload_n 0, 1) := by decide +kernel
theorem d_Whole_remainder_20 : decode b_Whole_remainder 20 = .ok (.getfield 9, 3) := by decide +kernel
theorem d_Whole_remainder_23 : decode b_Whole_remainder 23 = .ok (.iload 4, 2) := by decide +kernel
theorem d_Whole_remainder_25 : decode b_Whole_remainder 25 = .ok (.iaload, 1) := by decide +kernel
theorem d_Whole_remainder_26 : decode b_Whole_remainder 26 = .ok (.i2l, 1) := by decide +kernel
theorem d_Whole_remainder_27 : decode b_Whole_remainder 27 = .ok (.ldc2_w 35, 3) := by decide +kernel
theorem d_Whole_remainder_30 : decode b_Whole_remainder 30 = .ok (.land, 1) := by decide +kernel
theorem d_Whole_remainder_31 : decode b_Whole_remainder 31 = .ok (.lor, 1) := by decide +kernel
theorem d_Whole_remainder_32 : decode b_Whole_remainder 32 = .ok (.iload_n 1, 1) := by decide +kernel
theorem d_Whole_remainder_33 : decode b_Whole_remainder 33 = .ok (.i2l, 1) := by decide +kernel
theorem d_Whole_remainder_34 : decode b_Whole_remainder 34 = .ok (.lrem, 1) := by decide +kernel
theorem d_Whole_remainder_35 : decode b_Whole_remainder 35 = .ok (.lstore_n 2, 1) := by decide +kernel
theorem d_Whole_remainder_36 : decode b_Whole_remainder 36 = .ok (.iinc 4 (-1), 3) := by decide +kernel
theorem d_Whole_remainder_39 : decode b_Whole_remainder 39 = .ok (.goto (-29), 3) := by decide +kernel
theorem d_Whole_remainder_42 : decode b_Whole_remainder 42 = .ok (.lload_n 2, 1) := by decide +kernel
theorem d_Whole_remainder_43 : decode b_Whole_remainder 43 = .ok (.l2i, 1) := by decide +kernel
theorem d_Whole_remainder_44 : decode b_Whole_remainder 44 = .ok (.ireturn, 1) := by decide +kernel
theorem d_Whole_settle_0 : decode b_Whole_settle 0 = .ok (.iload_n 1, 1) := by decide +kernel
theorem d_Whole_settle_1 : decode b_Whole_settle 1 = .ok (.istore_n 2, 1) := by decide +kernel
theorem d_Whole_settle_2 : decode b_Whole_settle 2 = .ok (.iload_n 2, 1) := by decide +kernel
theorem d_Whole_settle_3 : decode b_Whole_settle 3 = .ok (.aload_n 0, 1) := by decide +kernel
theorem d_Whole_settle_4 : decode b_Whole_settle 4 = .ok (.getfield 15, 3) := by decide +kernel
theorem d_Whole_settle_7 : decode b_Whole_settle 7 = .ok (.if_icmp .ge 16, 3) := by decide +kernel
theorem d_Whole_settle_10 : decode b_Whole_settle 10 = .ok (.aload_n 0, 1) := by decide +kernel
theorem d_Whole_settle_11 : decode b_Whole_settle 11 = .ok (.getfield 9, 3) := by decide +kernel
theorem d_Whole_settle_14 : decode b_Whole_settle 14 = .ok (.iload_n 2, 1) := by decide +kernel
theorem d_Whole_settle_15 : decode b_Whole_settle 15 = .ok (.iconst 0, 1) := by decide +kernel
theorem d_Whole_settle_16 : decode b_Whole_settle 16 = .ok (.iastore, 1) := by decide +kernel
theorem d_Whole_settle_17 : decode b_Whole_settle 17 = .ok (.iinc 2 1, 3) := by decide +kernel
theorem d_Whole_settle_20 : decode b_Whole_settle 20 = .ok (.goto (-18), 3) := by decide +kernel
theorem d_Whole_settle_23 : decode b_Whole_settle 23 = .ok (.aload_n 0, 1) := by decide +kernel
theorem d_Whole_settle_24 : decode b_Whole_settle 24 = .ok (.iload_n 1, 1) := by decide +kernel
theorem d_Whole_settle_25 : decode b_Whole_settle 25 = .ok (.putfield 15, 3) := by decide +kernel
theorem d_Whole_settle_28 : decode b_Whole_settle 28 = .ok (.aload_n 0, 1) := by decide +kernel
theorem d_Whole_settle_29 : decode b_Whole_settle 29 = .ok (.getfield 15, 3) := by decide +kernel
theorem d_Whole_settle_32 : decode b_Whole_settle 32 = .ok (.ifCond .le 30, 3) := by decide +kernel
theorem d_Whole_settle_35 : decode b_Whole_settle 35 = .ok (.aload_n 0, 1) := by decide +kernel
theorem d_Whole_settle_36 : decode b_Whole_settle 36 = .ok (.getfield 9, 3) := by decide +kernel
theorem d_Whole_settle_39 : decode b_Whole_settle 39 = .ok (.aload_n 0, 1) := by decide +kernel
theorem d_Whole_settle_40 : decode b_Whole_settle 40 = .ok (.getfield 15, 3) := by decide +kernel
theorem d_Whole_settle_43 : decode b_Whole_settle 43 = .ok (.iconst 1, 1) := by decide +kernel
theorem d_Whole_settle_44 : decode b_Whole_settle 44 = .ok (.isub, 1) := by decide +kernel
theorem d_Whole_settle_45 : decode b_Whole_settle 45 = .ok (.iaload, 1) := by decide +kernel
theorem d_Whole_settle_46 : decode b_Whole_settle 46 = .ok (.ifCond .ne 16, 3) := by decide +kernel
theorem d_Whole_settle_49 : decode b_Whole_settle 49 = .ok (.aload_n 0, 1) := by decide +kernel
theorem d_Whole_settle_50 : decode b_Whole_settle 50 = .ok (.dup, 1) := by decide +kernel
theorem d_Whole_settle_51 : decode b_Whole_settle 51 = .ok (.getfield 15, 3) := by decide +kernel
theorem d_Whole_settle_54 : decode b_Whole_settle 54 = .ok (.iconst 1, 1) := by decide +kernel
theorem d_Whole_settle_55 : decode b_Whole_settle 55 = .ok (.isub, 1) := by decide +kernel
theorem d_Whole_settle_56 : decode b_Whole_settle 56 = .ok (.putfield 15, 3) := by decide +kernel
theorem d_Whole_settle_59 : decode b_Whole_settle 59 = .ok (.goto (-31), 3) := by decide +kernel
theorem d_Whole_settle_62 : decode b_Whole_settle 62 = .ok (.return_, 1) := by decide +kernel
theorem d_Whole_size_0 : decode b_Whole_size 0 = .ok (.aload_n 0, 1) := by decide +kernel
theorem d_Whole_size_1 : decode b_Whole_size 1 = .ok (.getfield 15, 3) := by decide +kernel
theorem d_Whole_size_4 : decode b_Whole_size 4 = .ok (.ifCond .ne 7, 3) := by decide +kernel
theorem d_Whole_size_7 : decode b_Whole_size 7 = .ok (.iconst 0, 1) := by decide +kernel
theorem d_Whole_size_8 : decode b_Whole_size 8 = .ok (.goto 25, 3) := by decide +kernel
theorem d_Whole_size_11 : decode b_Whole_size 11 = .ok (.bipush 32, 2) := by decide +kernel
theorem d_Whole_size_13 : decode b_Whole_size 13 = .ok (.aload_n 0, 1) := by decide +kernel
theorem d_Whole_size_14 : decode b_Whole_size 14 = .ok (.getfield 15, 3) := by decide +kernel
theorem d_Whole_size_17 : decode b_Whole_size 17 = .ok (.imul, 1) := by decide +kernel
theorem d_Whole_size_18 : decode b_Whole_size 18 = .ok (.aload_n 0, 1) := by decide +kernel
theorem d_Whole_size_19 : decode b_Whole_size 19 = .ok (.getfield 9, 3) := by decide +kernel
theorem d_Whole_size_22 : decode b_Whole_size 22 = .ok (.aload_n 0, 1) := by decide +kernel
theorem d_Whole_size_23 : decode b_Whole_size 23 = .ok (.getfield 15, 3) := by decide +kernel
theorem d_Whole_size_26 : decode b_Whole_size 26 = .ok (.iconst 1, 1) := by decide +kernel
theorem d_Whole_size_27 : decode b_Whole_size 27 = .ok (.isub, 1) := by decide +kernel
theorem d_Whole_size_28 : decode b_Whole_size 28 = .ok (.iaload, 1) := by decide +kernel
theorem d_Whole_size_29 : decode b_Whole_size 29 = .ok (.invokestatic 50, 3) := by decide +kernel
theorem d_Whole_size_32 : decode b_Whole_size 32 = .ok (.isub, 1) := by decide +kernel
theorem d_Whole_size_33 : decode b_Whole_size 33 = .ok (.ireturn, 1) := by decide +kernel
