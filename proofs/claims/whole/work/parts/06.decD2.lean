theorem dX12_waysInAll_52 : decode cX12_waysInAll 52 = .ok (.aload_n 0, 1) := by decide +kernel
theorem dX12_waysInAll_53 : decode cX12_waysInAll 53 = .ok (.getfield 130, 3) := by decide +kernel
theorem dX12_waysInAll_56 : decode cX12_waysInAll 56 = .ok (.iload_n 2, 1) := by decide +kernel
theorem dX12_waysInAll_57 : decode cX12_waysInAll 57 = .ok (.imul, 1) := by decide +kernel
theorem dX12_waysInAll_58 : decode cX12_waysInAll 58 = .ok (.ireturn, 1) := by decide +kernel
theorem dX12_waysInAll_59 : decode cX12_waysInAll 59 = .ok (.aload_n 0, 1) := by decide +kernel
theorem dX12_waysInAll_60 : decode cX12_waysInAll 60 = .ok (.getfield 139, 3) := by decide +kernel
theorem dX12_waysInAll_63 : decode cX12_waysInAll 63 = .ok (.ireturn, 1) := by decide +kernel
theorem dX12_waysInAll_64 : decode cX12_waysInAll 64 = .ok (.iconst 2, 1) := by decide +kernel
theorem dX12_waysInAll_65 : decode cX12_waysInAll 65 = .ok (.iload_n 2, 1) := by decide +kernel
theorem dX12_waysInAll_66 : decode cX12_waysInAll 66 = .ok (.imul, 1) := by decide +kernel
theorem dX12_waysInAll_67 : decode cX12_waysInAll 67 = .ok (.aload_n 0, 1) := by decide +kernel
theorem dX12_waysInAll_68 : decode cX12_waysInAll 68 = .ok (.invokevirtual 167, 3) := by decide +kernel
theorem dX12_waysInAll_71 : decode cX12_waysInAll 71 = .ok (.invokestatic 136, 3) := by decide +kernel
theorem dX12_waysInAll_74 : decode cX12_waysInAll 74 = .ok (.ireturn, 1) := by decide +kernel
theorem dX12_waysInAll_75 : decode cX12_waysInAll 75 = .ok (.iload_n 2, 1) := by decide +kernel
theorem dX12_waysInAll_76 : decode cX12_waysInAll 76 = .ok (.iconst 1, 1) := by decide +kernel
theorem dX12_waysInAll_77 : decode cX12_waysInAll 77 = .ok (.iadd, 1) := by decide +kernel
theorem dX12_waysInAll_78 : decode cX12_waysInAll 78 = .ok (.aload_n 0, 1) := by decide +kernel
theorem dX12_waysInAll_79 : decode cX12_waysInAll 79 = .ok (.getfield 130, 3) := by decide +kernel
theorem dX12_waysInAll_82 : decode cX12_waysInAll 82 = .ok (.invokestatic 136, 3) := by decide +kernel
theorem dX12_waysInAll_85 : decode cX12_waysInAll 85 = .ok (.ireturn, 1) := by decide +kernel
theorem dX12_waysInAll_86 : decode cX12_waysInAll 86 = .ok (.iload_n 2, 1) := by decide +kernel
theorem dX12_waysInAll_87 : decode cX12_waysInAll 87 = .ok (.ireturn, 1) := by decide +kernel
theorem dX12_weightBy_0 : decode cX12_weightBy 0 = .ok (.iload_n 3, 1) := by decide +kernel
theorem dX12_weightBy_1 : decode cX12_weightBy 1 = .ok (.bipush (-9), 2) := by decide +kernel
theorem dX12_weightBy_3 : decode cX12_weightBy 3 = .ok (.if_icmp .ne 18, 3) := by decide +kernel
theorem dX12_weightBy_6 : decode cX12_weightBy 6 = .ok (.iload 5, 2) := by decide +kernel
theorem dX12_weightBy_8 : decode cX12_weightBy 8 = .ok (.iload 4, 2) := by decide +kernel
theorem dX12_weightBy_10 : decode cX12_weightBy 10 = .ok (.if_icmp .ne 7, 3) := by decide +kernel
theorem dX12_weightBy_13 : decode cX12_weightBy 13 = .ok (.lconst 0, 1) := by decide +kernel
theorem dX12_weightBy_14 : decode cX12_weightBy 14 = .ok (.goto 19, 3) := by decide +kernel
theorem dX12_weightBy_17 : decode cX12_weightBy 17 = .ok (.lload_n 1, 1) := by decide +kernel
theorem dX12_weightBy_18 : decode cX12_weightBy 18 = .ok (.goto 15, 3) := by decide +kernel
theorem dX12_weightBy_21 : decode cX12_weightBy 21 = .ok (.lload_n 1, 1) := by decide +kernel
theorem dX12_weightBy_22 : decode cX12_weightBy 22 = .ok (.aload_n 0, 1) := by decide +kernel
theorem dX12_weightBy_23 : decode cX12_weightBy 23 = .ok (.iload_n 3, 1) := by decide +kernel
theorem dX12_weightBy_24 : decode cX12_weightBy 24 = .ok (.iload 5, 2) := by decide +kernel
theorem dX12_weightBy_26 : decode cX12_weightBy 26 = .ok (.iload 4, 2) := by decide +kernel
theorem dX12_weightBy_28 : decode cX12_weightBy 28 = .ok (.invokevirtual 170, 3) := by decide +kernel
theorem dX12_weightBy_31 : decode cX12_weightBy 31 = .ok (.i2l, 1) := by decide +kernel
theorem dX12_weightBy_32 : decode cX12_weightBy 32 = .ok (.lmul, 1) := by decide +kernel
theorem dX12_weightBy_33 : decode cX12_weightBy 33 = .ok (.lreturn, 1) := by decide +kernel
theorem dX12_layWeights_0 : decode cX12_layWeights 0 = .ok (.iconst 0, 1) := by decide +kernel
theorem dX12_layWeights_1 : decode cX12_layWeights 1 = .ok (.istore_n 1, 1) := by decide +kernel
theorem dX12_layWeights_2 : decode cX12_layWeights 2 = .ok (.iload_n 1, 1) := by decide +kernel
theorem dX12_layWeights_3 : decode cX12_layWeights 3 = .ok (.aload_n 0, 1) := by decide +kernel
theorem dX12_layWeights_4 : decode cX12_layWeights 4 = .ok (.getfield 139, 3) := by decide +kernel
theorem dX12_layWeights_7 : decode cX12_layWeights 7 = .ok (.if_icmp .ge 69, 3) := by decide +kernel
theorem dX12_layWeights_10 : decode cX12_layWeights 10 = .ok (.aload_n 0, 1) := by decide +kernel
theorem dX12_layWeights_11 : decode cX12_layWeights 11 = .ok (.getfield 16, 3) := by decide +kernel
theorem dX12_layWeights_14 : decode cX12_layWeights 14 = .ok (.iload_n 1, 1) := by decide +kernel
theorem dX12_layWeights_15 : decode cX12_layWeights 15 = .ok (.lconst 1, 1) := by decide +kernel
theorem dX12_layWeights_16 : decode cX12_layWeights 16 = .ok (.lastore, 1) := by decide +kernel
theorem dX12_layWeights_17 : decode cX12_layWeights 17 = .ok (.iconst 0, 1) := by decide +kernel
theorem dX12_layWeights_18 : decode cX12_layWeights 18 = .ok (.istore_n 2, 1) := by decide +kernel
theorem dX12_layWeights_19 : decode cX12_layWeights 19 = .ok (.iload_n 2, 1) := by decide +kernel
theorem dX12_layWeights_20 : decode cX12_layWeights 20 = .ok (.aload_n 0, 1) := by decide +kernel
theorem dX12_layWeights_21 : decode cX12_layWeights 21 = .ok (.getfield 7, 3) := by decide +kernel
theorem dX12_layWeights_24 : decode cX12_layWeights 24 = .ok (.iconst 0, 1) := by decide +kernel
theorem dX12_layWeights_25 : decode cX12_layWeights 25 = .ok (.iaload, 1) := by decide +kernel
theorem dX12_layWeights_26 : decode cX12_layWeights 26 = .ok (.if_icmp .ge 44, 3) := by decide +kernel
theorem dX12_layWeights_29 : decode cX12_layWeights 29 = .ok (.aload_n 0, 1) := by decide +kernel
theorem dX12_layWeights_30 : decode cX12_layWeights 30 = .ok (.getfield 16, 3) := by decide +kernel
theorem dX12_layWeights_33 : decode cX12_layWeights 33 = .ok (.iload_n 1, 1) := by decide +kernel
theorem dX12_layWeights_34 : decode cX12_layWeights 34 = .ok (.aload_n 0, 1) := by decide +kernel
theorem dX12_layWeights_35 : decode cX12_layWeights 35 = .ok (.aload_n 0, 1) := by decide +kernel
theorem dX12_layWeights_36 : decode cX12_layWeights 36 = .ok (.getfield 16, 3) := by decide +kernel
theorem dX12_layWeights_39 : decode cX12_layWeights 39 = .ok (.iload_n 1, 1) := by decide +kernel
theorem dX12_layWeights_40 : decode cX12_layWeights 40 = .ok (.laload, 1) := by decide +kernel
theorem dX12_layWeights_41 : decode cX12_layWeights 41 = .ok (.aload_n 0, 1) := by decide +kernel
theorem dX12_layWeights_42 : decode cX12_layWeights 42 = .ok (.getfield 7, 3) := by decide +kernel
theorem dX12_layWeights_45 : decode cX12_layWeights 45 = .ok (.bipush 6, 2) := by decide +kernel
theorem dX12_layWeights_47 : decode cX12_layWeights 47 = .ok (.iload_n 2, 1) := by decide +kernel
theorem dX12_layWeights_48 : decode cX12_layWeights 48 = .ok (.iadd, 1) := by decide +kernel
theorem dX12_layWeights_49 : decode cX12_layWeights 49 = .ok (.iaload, 1) := by decide +kernel
theorem dX12_layWeights_50 : decode cX12_layWeights 50 = .ok (.aload_n 0, 1) := by decide +kernel
theorem dX12_layWeights_51 : decode cX12_layWeights 51 = .ok (.getfield 7, 3) := by decide +kernel
theorem dX12_layWeights_54 : decode cX12_layWeights 54 = .ok (.bipush 22, 2) := by decide +kernel
theorem dX12_layWeights_56 : decode cX12_layWeights 56 = .ok (.iload_n 2, 1) := by decide +kernel
theorem dX12_layWeights_57 : decode cX12_layWeights 57 = .ok (.iadd, 1) := by decide +kernel
theorem dX12_layWeights_58 : decode cX12_layWeights 58 = .ok (.iaload, 1) := by decide +kernel
theorem dX12_layWeights_59 : decode cX12_layWeights 59 = .ok (.iload_n 1, 1) := by decide +kernel
theorem dX12_layWeights_60 : decode cX12_layWeights 60 = .ok (.invokevirtual 173, 3) := by decide +kernel
theorem dX12_layWeights_63 : decode cX12_layWeights 63 = .ok (.lastore, 1) := by decide +kernel
theorem dX12_layWeights_64 : decode cX12_layWeights 64 = .ok (.iinc 2 1, 3) := by decide +kernel
theorem dX12_layWeights_67 : decode cX12_layWeights 67 = .ok (.goto (-48), 3) := by decide +kernel
theorem dX12_layWeights_70 : decode cX12_layWeights 70 = .ok (.iinc 1 1, 3) := by decide +kernel
theorem dX12_layWeights_73 : decode cX12_layWeights 73 = .ok (.goto (-71), 3) := by decide +kernel
theorem dX12_layWeights_76 : decode cX12_layWeights 76 = .ok (.return_, 1) := by decide +kernel
theorem dX12_possible_0 : decode cX12_possible 0 = .ok (.iconst 0, 1) := by decide +kernel
theorem dX12_possible_1 : decode cX12_possible 1 = .ok (.istore_n 1, 1) := by decide +kernel
theorem dX12_possible_2 : decode cX12_possible 2 = .ok (.iconst 0, 1) := by decide +kernel
theorem dX12_possible_3 : decode cX12_possible 3 = .ok (.istore_n 2, 1) := by decide +kernel
theorem dX12_possible_4 : decode cX12_possible 4 = .ok (.iload_n 2, 1) := by decide +kernel
theorem dX12_possible_5 : decode cX12_possible 5 = .ok (.aload_n 0, 1) := by decide +kernel
theorem dX12_possible_6 : decode cX12_possible 6 = .ok (.getfield 139, 3) := by decide +kernel
theorem dX12_possible_9 : decode cX12_possible 9 = .ok (.if_icmp .ge 28, 3) := by decide +kernel
theorem dX12_possible_12 : decode cX12_possible 12 = .ok (.iload_n 1, 1) := by decide +kernel
theorem dX12_possible_13 : decode cX12_possible 13 = .ok (.aload_n 0, 1) := by decide +kernel
theorem dX12_possible_14 : decode cX12_possible 14 = .ok (.getfield 16, 3) := by decide +kernel
theorem dX12_possible_17 : decode cX12_possible 17 = .ok (.iload_n 2, 1) := by decide +kernel
theorem dX12_possible_18 : decode cX12_possible 18 = .ok (.laload, 1) := by decide +kernel
theorem dX12_possible_19 : decode cX12_possible 19 = .ok (.lconst 0, 1) := by decide +kernel
theorem dX12_possible_20 : decode cX12_possible 20 = .ok (.lcmp, 1) := by decide +kernel
theorem dX12_possible_21 : decode cX12_possible 21 = .ok (.ifCond .le 7, 3) := by decide +kernel
theorem dX12_possible_24 : decode cX12_possible 24 = .ok (.iconst 1, 1) := by decide +kernel
theorem dX12_possible_25 : decode cX12_possible 25 = .ok (.goto 4, 3) := by decide +kernel
theorem dX12_possible_28 : decode cX12_possible 28 = .ok (.iconst 0, 1) := by decide +kernel
theorem dX12_possible_29 : decode cX12_possible 29 = .ok (.iadd, 1) := by decide +kernel
theorem dX12_possible_30 : decode cX12_possible 30 = .ok (.istore_n 1, 1) := by decide +kernel
theorem dX12_possible_31 : decode cX12_possible 31 = .ok (.iinc 2 1, 3) := by decide +kernel
theorem dX12_possible_34 : decode cX12_possible 34 = .ok (.goto (-30), 3) := by decide +kernel
theorem dX12_possible_37 : decode cX12_possible 37 = .ok (.iload_n 1, 1) := by decide +kernel
theorem dX12_possible_38 : decode cX12_possible 38 = .ok (.ireturn, 1) := by decide +kernel
theorem dX12_allWeights_0 : decode cX12_allWeights 0 = .ok (.lconst 0, 1) := by decide +kernel
theorem dX12_allWeights_1 : decode cX12_allWeights 1 = .ok (.lstore_n 1, 1) := by decide +kernel
theorem dX12_allWeights_2 : decode cX12_allWeights 2 = .ok (.iconst 0, 1) := by decide +kernel
theorem dX12_allWeights_3 : decode cX12_allWeights 3 = .ok (.istore_n 3, 1) := by decide +kernel
theorem dX12_allWeights_4 : decode cX12_allWeights 4 = .ok (.iload_n 3, 1) := by decide +kernel
theorem dX12_allWeights_5 : decode cX12_allWeights 5 = .ok (.aload_n 0, 1) := by decide +kernel
theorem dX12_allWeights_6 : decode cX12_allWeights 6 = .ok (.getfield 139, 3) := by decide +kernel
theorem dX12_allWeights_9 : decode cX12_allWeights 9 = .ok (.if_icmp .ge 18, 3) := by decide +kernel
theorem dX12_allWeights_12 : decode cX12_allWeights 12 = .ok (.lload_n 1, 1) := by decide +kernel
theorem dX12_allWeights_13 : decode cX12_allWeights 13 = .ok (.aload_n 0, 1) := by decide +kernel
theorem dX12_allWeights_14 : decode cX12_allWeights 14 = .ok (.getfield 16, 3) := by decide +kernel
theorem dX12_allWeights_17 : decode cX12_allWeights 17 = .ok (.iload_n 3, 1) := by decide +kernel
theorem dX12_allWeights_18 : decode cX12_allWeights 18 = .ok (.laload, 1) := by decide +kernel
theorem dX12_allWeights_19 : decode cX12_allWeights 19 = .ok (.ladd, 1) := by decide +kernel
theorem dX12_allWeights_20 : decode cX12_allWeights 20 = .ok (.lstore_n 1, 1) := by decide +kernel
theorem dX12_allWeights_21 : decode cX12_allWeights 21 = .ok (.iinc 3 1, 3) := by decide +kernel
theorem dX12_allWeights_24 : decode cX12_allWeights 24 = .ok (.goto (-20), 3) := by decide +kernel
theorem dX12_allWeights_27 : decode cX12_allWeights 27 = .ok (.lload_n 1, 1) := by decide +kernel
theorem dX12_allWeights_28 : decode cX12_allWeights 28 = .ok (.lreturn, 1) := by decide +kernel
theorem dX12_lookedAt_0 : decode cX12_lookedAt 0 = .ok (.iconst 0, 1) := by decide +kernel
theorem dX12_lookedAt_1 : decode cX12_lookedAt 1 = .ok (.istore_n 2, 1) := by decide +kernel
theorem dX12_lookedAt_2 : decode cX12_lookedAt 2 = .ok (.iconst 0, 1) := by decide +kernel
theorem dX12_lookedAt_3 : decode cX12_lookedAt 3 = .ok (.istore_n 3, 1) := by decide +kernel
theorem dX12_lookedAt_4 : decode cX12_lookedAt 4 = .ok (.iload_n 3, 1) := by decide +kernel
theorem dX12_lookedAt_5 : decode cX12_lookedAt 5 = .ok (.aload_n 0, 1) := by decide +kernel
theorem dX12_lookedAt_6 : decode cX12_lookedAt 6 = .ok (.getfield 7, 3) := by decide +kernel
theorem dX12_lookedAt_9 : decode cX12_lookedAt 9 = .ok (.iconst 0, 1) := by decide +kernel
theorem dX12_lookedAt_10 : decode cX12_lookedAt 10 = .ok (.iaload, 1) := by decide +kernel
theorem dX12_lookedAt_11 : decode cX12_lookedAt 11 = .ok (.if_icmp .ge 30, 3) := by decide +kernel
theorem dX12_lookedAt_14 : decode cX12_lookedAt 14 = .ok (.iload_n 2, 1) := by decide +kernel
theorem dX12_lookedAt_15 : decode cX12_lookedAt 15 = .ok (.aload_n 0, 1) := by decide +kernel
theorem dX12_lookedAt_16 : decode cX12_lookedAt 16 = .ok (.getfield 7, 3) := by decide +kernel
theorem dX12_lookedAt_19 : decode cX12_lookedAt 19 = .ok (.bipush 6, 2) := by decide +kernel
theorem dX12_lookedAt_21 : decode cX12_lookedAt 21 = .ok (.iload_n 3, 1) := by decide +kernel
theorem dX12_lookedAt_22 : decode cX12_lookedAt 22 = .ok (.iadd, 1) := by decide +kernel
theorem dX12_lookedAt_23 : decode cX12_lookedAt 23 = .ok (.iaload, 1) := by decide +kernel
theorem dX12_lookedAt_24 : decode cX12_lookedAt 24 = .ok (.iload_n 1, 1) := by decide +kernel
theorem dX12_lookedAt_25 : decode cX12_lookedAt 25 = .ok (.if_icmp .ne 7, 3) := by decide +kernel
theorem dX12_lookedAt_28 : decode cX12_lookedAt 28 = .ok (.iconst 1, 1) := by decide +kernel
theorem dX12_lookedAt_29 : decode cX12_lookedAt 29 = .ok (.goto 4, 3) := by decide +kernel
theorem dX12_lookedAt_32 : decode cX12_lookedAt 32 = .ok (.iconst 0, 1) := by decide +kernel
theorem dX12_lookedAt_33 : decode cX12_lookedAt 33 = .ok (.iadd, 1) := by decide +kernel
theorem dX12_lookedAt_34 : decode cX12_lookedAt 34 = .ok (.istore_n 2, 1) := by decide +kernel
theorem dX12_lookedAt_35 : decode cX12_lookedAt 35 = .ok (.iinc 3 1, 3) := by decide +kernel
theorem dX12_lookedAt_38 : decode cX12_lookedAt 38 = .ok (.goto (-34), 3) := by decide +kernel
theorem dX12_lookedAt_41 : decode cX12_lookedAt 41 = .ok (.iload_n 2, 1) := by decide +kernel
theorem dX12_lookedAt_42 : decode cX12_lookedAt 42 = .ok (.ireturn, 1) := by decide +kernel
theorem dX12_toldOf_0 : decode cX12_toldOf 0 = .ok (.iload_n 2, 1) := by decide +kernel
theorem dX12_toldOf_1 : decode cX12_toldOf 1 = .ok (.ifCond .ne 12, 3) := by decide +kernel
theorem dX12_toldOf_4 : decode cX12_toldOf 4 = .ok (.aload_n 0, 1) := by decide +kernel
theorem dX12_toldOf_5 : decode cX12_toldOf 5 = .ok (.getfield 13, 3) := by decide +kernel
theorem dX12_toldOf_8 : decode cX12_toldOf 8 = .ok (.iload_n 1, 1) := by decide +kernel
theorem dX12_toldOf_9 : decode cX12_toldOf 9 = .ok (.iaload, 1) := by decide +kernel
theorem dX12_toldOf_10 : decode cX12_toldOf 10 = .ok (.goto 34, 3) := by decide +kernel
theorem dX12_toldOf_13 : decode cX12_toldOf 13 = .ok (.iload_n 2, 1) := by decide +kernel
theorem dX12_toldOf_14 : decode cX12_toldOf 14 = .ok (.iconst 1, 1) := by decide +kernel
theorem dX12_toldOf_15 : decode cX12_toldOf 15 = .ok (.if_icmp .ne 11, 3) := by decide +kernel
theorem dX12_toldOf_18 : decode cX12_toldOf 18 = .ok (.aload_n 0, 1) := by decide +kernel
theorem dX12_toldOf_19 : decode cX12_toldOf 19 = .ok (.iload_n 1, 1) := by decide +kernel
theorem dX12_toldOf_20 : decode cX12_toldOf 20 = .ok (.invokevirtual 151, 3) := by decide +kernel
theorem dX12_toldOf_23 : decode cX12_toldOf 23 = .ok (.goto 21, 3) := by decide +kernel
theorem dX12_toldOf_26 : decode cX12_toldOf 26 = .ok (.iload_n 2, 1) := by decide +kernel
theorem dX12_toldOf_27 : decode cX12_toldOf 27 = .ok (.iconst 2, 1) := by decide +kernel
theorem dX12_toldOf_28 : decode cX12_toldOf 28 = .ok (.if_icmp .ne 11, 3) := by decide +kernel
theorem dX12_toldOf_31 : decode cX12_toldOf 31 = .ok (.aload_n 0, 1) := by decide +kernel
theorem dX12_toldOf_32 : decode cX12_toldOf 32 = .ok (.iload_n 1, 1) := by decide +kernel
theorem dX12_toldOf_33 : decode cX12_toldOf 33 = .ok (.invokevirtual 177, 3) := by decide +kernel
theorem dX12_toldOf_36 : decode cX12_toldOf 36 = .ok (.goto 8, 3) := by decide +kernel
theorem dX12_toldOf_39 : decode cX12_toldOf 39 = .ok (.aload_n 0, 1) := by decide +kernel
theorem dX12_toldOf_40 : decode cX12_toldOf 40 = .ok (.iload_n 1, 1) := by decide +kernel
theorem dX12_toldOf_41 : decode cX12_toldOf 41 = .ok (.invokevirtual 180, 3) := by decide +kernel
theorem dX12_toldOf_44 : decode cX12_toldOf 44 = .ok (.ireturn, 1) := by decide +kernel
theorem dX12_person_0 : decode cX12_person 0 = .ok (.aload_n 0, 1) := by decide +kernel
theorem dX12_person_1 : decode cX12_person 1 = .ok (.iload_n 1, 1) := by decide +kernel
theorem dX12_person_2 : decode cX12_person 2 = .ok (.invokevirtual 183, 3) := by decide +kernel
theorem dX12_person_5 : decode cX12_person 5 = .ok (.ifCond .eq 28, 3) := by decide +kernel
theorem dX12_person_8 : decode cX12_person 8 = .ok (.iload_n 2, 1) := by decide +kernel
theorem dX12_person_9 : decode cX12_person 9 = .ok (.i2l, 1) := by decide +kernel
theorem dX12_person_10 : decode cX12_person 10 = .ok (.lconst 0, 1) := by decide +kernel
theorem dX12_person_11 : decode cX12_person 11 = .ok (.ldc2_w 61, 3) := by decide +kernel
theorem dX12_person_14 : decode cX12_person 14 = .ok (.invokestatic 57, 3) := by decide +kernel
theorem dX12_person_17 : decode cX12_person 17 = .ok (.ifCond .eq 16, 3) := by decide +kernel
theorem dX12_person_20 : decode cX12_person 20 = .ok (.aload_n 0, 1) := by decide +kernel
theorem dX12_person_21 : decode cX12_person 21 = .ok (.aload_n 0, 1) := by decide +kernel
theorem dX12_person_22 : decode cX12_person 22 = .ok (.iload_n 1, 1) := by decide +kernel
theorem dX12_person_23 : decode cX12_person 23 = .ok (.iload_n 2, 1) := by decide +kernel
theorem dX12_person_24 : decode cX12_person 24 = .ok (.invokevirtual 186, 3) := by decide +kernel
theorem dX12_person_27 : decode cX12_person 27 = .ok (.invokevirtual 79, 3) := by decide +kernel
theorem dX12_person_30 : decode cX12_person 30 = .ok (.goto 4, 3) := by decide +kernel
theorem dX12_person_33 : decode cX12_person 33 = .ok (.iconst (-1), 1) := by decide +kernel
theorem dX12_person_34 : decode cX12_person 34 = .ok (.ireturn, 1) := by decide +kernel
theorem dX12_isOf_0 : decode cX12_isOf 0 = .ok (.aload_n 0, 1) := by decide +kernel
theorem dX12_isOf_1 : decode cX12_isOf 1 = .ok (.getfield 13, 3) := by decide +kernel
theorem dX12_isOf_4 : decode cX12_isOf 4 = .ok (.iload_n 1, 1) := by decide +kernel
theorem dX12_isOf_5 : decode cX12_isOf 5 = .ok (.iaload, 1) := by decide +kernel
theorem dX12_isOf_6 : decode cX12_isOf 6 = .ok (.iload_n 2, 1) := by decide +kernel
theorem dX12_isOf_7 : decode cX12_isOf 7 = .ok (.if_icmp .eq 33, 3) := by decide +kernel
theorem dX12_isOf_10 : decode cX12_isOf 10 = .ok (.iload_n 2, 1) := by decide +kernel
theorem dX12_isOf_11 : decode cX12_isOf 11 = .ok (.iconst 1, 1) := by decide +kernel
theorem dX12_isOf_12 : decode cX12_isOf 12 = .ok (.if_icmp .ne 13, 3) := by decide +kernel
theorem dX12_isOf_15 : decode cX12_isOf 15 = .ok (.aload_n 0, 1) := by decide +kernel
theorem dX12_isOf_16 : decode cX12_isOf 16 = .ok (.getfield 13, 3) := by decide +kernel
theorem dX12_isOf_19 : decode cX12_isOf 19 = .ok (.iload_n 1, 1) := by decide +kernel
theorem dX12_isOf_20 : decode cX12_isOf 20 = .ok (.iaload, 1) := by decide +kernel
theorem dX12_isOf_21 : decode cX12_isOf 21 = .ok (.iconst 4, 1) := by decide +kernel
theorem dX12_isOf_22 : decode cX12_isOf 22 = .ok (.if_icmp .eq 18, 3) := by decide +kernel
theorem dX12_isOf_25 : decode cX12_isOf 25 = .ok (.iload_n 2, 1) := by decide +kernel
theorem dX12_isOf_26 : decode cX12_isOf 26 = .ok (.iconst 2, 1) := by decide +kernel
theorem dX12_isOf_27 : decode cX12_isOf 27 = .ok (.if_icmp .ne 17, 3) := by decide +kernel
theorem dX12_isOf_30 : decode cX12_isOf 30 = .ok (.aload_n 0, 1) := by decide +kernel
theorem dX12_isOf_31 : decode cX12_isOf 31 = .ok (.getfield 13, 3) := by decide +kernel
theorem dX12_isOf_34 : decode cX12_isOf 34 = .ok (.iload_n 1, 1) := by decide +kernel
theorem dX12_isOf_35 : decode cX12_isOf 35 = .ok (.iaload, 1) := by decide +kernel
theorem dX12_isOf_36 : decode cX12_isOf 36 = .ok (.iconst 5, 1) := by decide +kernel
theorem dX12_isOf_37 : decode cX12_isOf 37 = .ok (.if_icmp .ne 7, 3) := by decide +kernel
theorem dX12_isOf_40 : decode cX12_isOf 40 = .ok (.iconst 1, 1) := by decide +kernel
theorem dX12_isOf_41 : decode cX12_isOf 41 = .ok (.goto 4, 3) := by decide +kernel
theorem dX12_isOf_44 : decode cX12_isOf 44 = .ok (.iconst 0, 1) := by decide +kernel
theorem dX12_isOf_45 : decode cX12_isOf 45 = .ok (.ireturn, 1) := by decide +kernel
theorem dX12_sightsFrom_0 : decode cX12_sightsFrom 0 = .ok (.iconst 0, 1) := by decide +kernel
theorem dX12_sightsFrom_1 : decode cX12_sightsFrom 1 = .ok (.istore_n 2, 1) := by decide +kernel
theorem dX12_sightsFrom_2 : decode cX12_sightsFrom 2 = .ok (.iconst 0, 1) := by decide +kernel
theorem dX12_sightsFrom_3 : decode cX12_sightsFrom 3 = .ok (.istore_n 3, 1) := by decide +kernel
theorem dX12_sightsFrom_4 : decode cX12_sightsFrom 4 = .ok (.iload_n 3, 1) := by decide +kernel
theorem dX12_sightsFrom_5 : decode cX12_sightsFrom 5 = .ok (.aload_n 0, 1) := by decide +kernel
theorem dX12_sightsFrom_6 : decode cX12_sightsFrom 6 = .ok (.getfield 139, 3) := by decide +kernel
theorem dX12_sightsFrom_9 : decode cX12_sightsFrom 9 = .ok (.if_icmp .ge 27, 3) := by decide +kernel
theorem dX12_sightsFrom_12 : decode cX12_sightsFrom 12 = .ok (.iload_n 2, 1) := by decide +kernel
theorem dX12_sightsFrom_13 : decode cX12_sightsFrom 13 = .ok (.aload_n 0, 1) := by decide +kernel
theorem dX12_sightsFrom_14 : decode cX12_sightsFrom 14 = .ok (.iload_n 1, 1) := by decide +kernel
theorem dX12_sightsFrom_15 : decode cX12_sightsFrom 15 = .ok (.iconst 0, 1) := by decide +kernel
theorem dX12_sightsFrom_16 : decode cX12_sightsFrom 16 = .ok (.iload_n 3, 1) := by decide +kernel
theorem dX12_sightsFrom_17 : decode cX12_sightsFrom 17 = .ok (.invokevirtual 170, 3) := by decide +kernel
theorem dX12_sightsFrom_20 : decode cX12_sightsFrom 20 = .ok (.ifCond .le 7, 3) := by decide +kernel
theorem dX12_sightsFrom_23 : decode cX12_sightsFrom 23 = .ok (.iconst 1, 1) := by decide +kernel
theorem dX12_sightsFrom_24 : decode cX12_sightsFrom 24 = .ok (.goto 4, 3) := by decide +kernel
theorem dX12_sightsFrom_27 : decode cX12_sightsFrom 27 = .ok (.iconst 0, 1) := by decide +kernel
theorem dX12_sightsFrom_28 : decode cX12_sightsFrom 28 = .ok (.iadd, 1) := by decide +kernel
theorem dX12_sightsFrom_29 : decode cX12_sightsFrom 29 = .ok (.istore_n 2, 1) := by decide +kernel
theorem dX12_sightsFrom_30 : decode cX12_sightsFrom 30 = .ok (.iinc 3 1, 3) := by decide +kernel
theorem dX12_sightsFrom_33 : decode cX12_sightsFrom 33 = .ok (.goto (-29), 3) := by decide +kernel
theorem dX12_sightsFrom_36 : decode cX12_sightsFrom 36 = .ok (.iload_n 2, 1) := by decide +kernel
theorem dX12_sightsFrom_37 : decode cX12_sightsFrom 37 = .ok (.ireturn, 1) := by decide +kernel
theorem dX12_waysThatLeave_0 : decode cX12_waysThatLeave 0 = .ok (.iconst 0, 1) := by decide +kernel
theorem dX12_waysThatLeave_1 : decode cX12_waysThatLeave 1 = .ok (.istore_n 2, 1) := by decide +kernel
theorem dX12_waysThatLeave_2 : decode cX12_waysThatLeave 2 = .ok (.iconst 0, 1) := by decide +kernel
theorem dX12_waysThatLeave_3 : decode cX12_waysThatLeave 3 = .ok (.istore_n 3, 1) := by decide +kernel
theorem dX12_waysThatLeave_4 : decode cX12_waysThatLeave 4 = .ok (.iload_n 3, 1) := by decide +kernel
theorem dX12_waysThatLeave_5 : decode cX12_waysThatLeave 5 = .ok (.aload_n 0, 1) := by decide +kernel
theorem dX12_waysThatLeave_6 : decode cX12_waysThatLeave 6 = .ok (.getfield 139, 3) := by decide +kernel
theorem dX12_waysThatLeave_9 : decode cX12_waysThatLeave 9 = .ok (.if_icmp .ge 32, 3) := by decide +kernel
theorem dX12_waysThatLeave_12 : decode cX12_waysThatLeave 12 = .ok (.iload_n 2, 1) := by decide +kernel
theorem dX12_waysThatLeave_13 : decode cX12_waysThatLeave 13 = .ok (.aload_n 0, 1) := by decide +kernel
theorem dX12_waysThatLeave_14 : decode cX12_waysThatLeave 14 = .ok (.iload_n 3, 1) := by decide +kernel
theorem dX12_waysThatLeave_15 : decode cX12_waysThatLeave 15 = .ok (.iconst 0, 1) := by decide +kernel
theorem dX12_waysThatLeave_16 : decode cX12_waysThatLeave 16 = .ok (.invokevirtual 148, 3) := by decide +kernel
theorem dX12_waysThatLeave_19 : decode cX12_waysThatLeave 19 = .ok (.ifCond .ne 13, 3) := by decide +kernel
theorem dX12_waysThatLeave_22 : decode cX12_waysThatLeave 22 = .ok (.aload_n 0, 1) := by decide +kernel
theorem dX12_waysThatLeave_23 : decode cX12_waysThatLeave 23 = .ok (.iload_n 1, 1) := by decide +kernel
theorem dX12_waysThatLeave_24 : decode cX12_waysThatLeave 24 = .ok (.iconst 0, 1) := by decide +kernel
theorem dX12_waysThatLeave_25 : decode cX12_waysThatLeave 25 = .ok (.iload_n 3, 1) := by decide +kernel
theorem dX12_waysThatLeave_26 : decode cX12_waysThatLeave 26 = .ok (.invokevirtual 170, 3) := by decide +kernel
theorem dX12_waysThatLeave_29 : decode cX12_waysThatLeave 29 = .ok (.goto 4, 3) := by decide +kernel
theorem dX12_waysThatLeave_32 : decode cX12_waysThatLeave 32 = .ok (.iconst 0, 1) := by decide +kernel
theorem dX12_waysThatLeave_33 : decode cX12_waysThatLeave 33 = .ok (.iadd, 1) := by decide +kernel
theorem dX12_waysThatLeave_34 : decode cX12_waysThatLeave 34 = .ok (.istore_n 2, 1) := by decide +kernel
theorem dX12_waysThatLeave_35 : decode cX12_waysThatLeave 35 = .ok (.iinc 3 1, 3) := by decide +kernel
theorem dX12_waysThatLeave_38 : decode cX12_waysThatLeave 38 = .ok (.goto (-34), 3) := by decide +kernel
theorem dX12_waysThatLeave_41 : decode cX12_waysThatLeave 41 = .ok (.iload_n 2, 1) := by decide +kernel
theorem dX12_waysThatLeave_42 : decode cX12_waysThatLeave 42 = .ok (.ireturn, 1) := by decide +kernel
theorem dX12_notchesInAll_0 : decode cX12_notchesInAll 0 = .ok (.iconst 0, 1) := by decide +kernel
theorem dX12_notchesInAll_1 : decode cX12_notchesInAll 1 = .ok (.istore_n 2, 1) := by decide +kernel
theorem dX12_notchesInAll_2 : decode cX12_notchesInAll 2 = .ok (.iconst 0, 1) := by decide +kernel
theorem dX12_notchesInAll_3 : decode cX12_notchesInAll 3 = .ok (.istore_n 3, 1) := by decide +kernel
theorem dX12_notchesInAll_4 : decode cX12_notchesInAll 4 = .ok (.iload_n 3, 1) := by decide +kernel
theorem dX12_notchesInAll_5 : decode cX12_notchesInAll 5 = .ok (.aload_n 0, 1) := by decide +kernel
theorem dX12_notchesInAll_6 : decode cX12_notchesInAll 6 = .ok (.getfield 139, 3) := by decide +kernel
theorem dX12_notchesInAll_9 : decode cX12_notchesInAll 9 = .ok (.if_icmp .ge 45, 3) := by decide +kernel
theorem dX12_notchesInAll_12 : decode cX12_notchesInAll 12 = .ok (.iconst 0, 1) := by decide +kernel
theorem dX12_notchesInAll_13 : decode cX12_notchesInAll 13 = .ok (.istore 4, 2) := by decide +kernel
theorem dX12_notchesInAll_15 : decode cX12_notchesInAll 15 = .ok (.iload 4, 2) := by decide +kernel
theorem dX12_notchesInAll_17 : decode cX12_notchesInAll 17 = .ok (.aload_n 0, 1) := by decide +kernel
theorem dX12_notchesInAll_18 : decode cX12_notchesInAll 18 = .ok (.getfield 130, 3) := by decide +kernel
theorem dX12_notchesInAll_21 : decode cX12_notchesInAll 21 = .ok (.if_icmp .ge 27, 3) := by decide +kernel
theorem dX12_notchesInAll_24 : decode cX12_notchesInAll 24 = .ok (.iload_n 2, 1) := by decide +kernel
theorem dX12_notchesInAll_25 : decode cX12_notchesInAll 25 = .ok (.aload_n 0, 1) := by decide +kernel
theorem dX12_notchesInAll_26 : decode cX12_notchesInAll 26 = .ok (.iload_n 1, 1) := by decide +kernel
theorem dX12_notchesInAll_27 : decode cX12_notchesInAll 27 = .ok (.iconst 0, 1) := by decide +kernel
theorem dX12_notchesInAll_28 : decode cX12_notchesInAll 28 = .ok (.iload_n 3, 1) := by decide +kernel
theorem dX12_notchesInAll_29 : decode cX12_notchesInAll 29 = .ok (.invokevirtual 170, 3) := by decide +kernel
theorem dX12_notchesInAll_32 : decode cX12_notchesInAll 32 = .ok (.aload_n 0, 1) := by decide +kernel
theorem dX12_notchesInAll_33 : decode cX12_notchesInAll 33 = .ok (.iload_n 3, 1) := by decide +kernel
theorem dX12_notchesInAll_34 : decode cX12_notchesInAll 34 = .ok (.iload 4, 2) := by decide +kernel
theorem dX12_notchesInAll_36 : decode cX12_notchesInAll 36 = .ok (.invokevirtual 148, 3) := by decide +kernel
theorem dX12_notchesInAll_39 : decode cX12_notchesInAll 39 = .ok (.imul, 1) := by decide +kernel
theorem dX12_notchesInAll_40 : decode cX12_notchesInAll 40 = .ok (.iadd, 1) := by decide +kernel
theorem dX12_notchesInAll_41 : decode cX12_notchesInAll 41 = .ok (.istore_n 2, 1) := by decide +kernel
theorem dX12_notchesInAll_42 : decode cX12_notchesInAll 42 = .ok (.iinc 4 1, 3) := by decide +kernel
theorem dX12_notchesInAll_45 : decode cX12_notchesInAll 45 = .ok (.goto (-30), 3) := by decide +kernel
theorem dX12_notchesInAll_48 : decode cX12_notchesInAll 48 = .ok (.iinc 3 1, 3) := by decide +kernel
theorem dX12_notchesInAll_51 : decode cX12_notchesInAll 51 = .ok (.goto (-47), 3) := by decide +kernel
theorem dX12_notchesInAll_54 : decode cX12_notchesInAll 54 = .ok (.iload_n 2, 1) := by decide +kernel
theorem dX12_notchesInAll_55 : decode cX12_notchesInAll 55 = .ok (.ireturn, 1) := by decide +kernel
theorem dX12_mark_0 : decode cX12_mark 0 = .ok (.aload_n 0, 1) := by decide +kernel
theorem dX12_mark_1 : decode cX12_mark 1 = .ok (.iload_n 1, 1) := by decide +kernel
theorem dX12_mark_2 : decode cX12_mark 2 = .ok (.invokevirtual 183, 3) := by decide +kernel
theorem dX12_mark_5 : decode cX12_mark 5 = .ok (.ifCond .eq 15, 3) := by decide +kernel
theorem dX12_mark_8 : decode cX12_mark 8 = .ok (.iload_n 2, 1) := by decide +kernel
theorem dX12_mark_9 : decode cX12_mark 9 = .ok (.i2l, 1) := by decide +kernel
theorem dX12_mark_10 : decode cX12_mark 10 = .ok (.lconst 1, 1) := by decide +kernel
theorem dX12_mark_11 : decode cX12_mark 11 = .ok (.ldc2_w 55, 3) := by decide +kernel
theorem dX12_mark_14 : decode cX12_mark 14 = .ok (.invokestatic 57, 3) := by decide +kernel
theorem dX12_mark_17 : decode cX12_mark 17 = .ok (.ifCond .ne 5, 3) := by decide +kernel
theorem dX12_mark_20 : decode cX12_mark 20 = .ok (.iconst (-1), 1) := by decide +kernel
theorem dX12_mark_21 : decode cX12_mark 21 = .ok (.ireturn, 1) := by decide +kernel
theorem dX12_mark_22 : decode cX12_mark 22 = .ok (.aload_n 0, 1) := by decide +kernel
theorem dX12_mark_23 : decode cX12_mark 23 = .ok (.iload_n 1, 1) := by decide +kernel
theorem dX12_mark_24 : decode cX12_mark 24 = .ok (.iload_n 2, 1) := by decide +kernel
theorem dX12_mark_25 : decode cX12_mark 25 = .ok (.invokevirtual 189, 3) := by decide +kernel
theorem dX12_mark_28 : decode cX12_mark 28 = .ok (.ifCond .ne 9, 3) := by decide +kernel
theorem dX12_mark_31 : decode cX12_mark 31 = .ok (.aload_n 0, 1) := by decide +kernel
theorem dX12_mark_32 : decode cX12_mark 32 = .ok (.iconst 3, 1) := by decide +kernel
theorem dX12_mark_33 : decode cX12_mark 33 = .ok (.invokevirtual 67, 3) := by decide +kernel
theorem dX12_mark_36 : decode cX12_mark 36 = .ok (.ireturn, 1) := by decide +kernel
theorem dX12_mark_37 : decode cX12_mark 37 = .ok (.iload_n 2, 1) := by decide +kernel
theorem dX12_mark_38 : decode cX12_mark 38 = .ok (.tableswitch 52 1 4 #[30, 36, 42, 47], 30) := by decide +kernel
theorem dX12_mark_68 : decode cX12_mark 68 = .ok (.aload_n 0, 1) := by decide +kernel
theorem dX12_mark_69 : decode cX12_mark 69 = .ok (.iload_n 1, 1) := by decide +kernel
theorem dX12_mark_70 : decode cX12_mark 70 = .ok (.invokevirtual 193, 3) := by decide +kernel
theorem dX12_mark_73 : decode cX12_mark 73 = .ok (.ireturn, 1) := by decide +kernel
theorem dX12_mark_74 : decode cX12_mark 74 = .ok (.aload_n 0, 1) := by decide +kernel
theorem dX12_mark_75 : decode cX12_mark 75 = .ok (.iload_n 1, 1) := by decide +kernel
theorem dX12_mark_76 : decode cX12_mark 76 = .ok (.invokevirtual 196, 3) := by decide +kernel
theorem dX12_mark_79 : decode cX12_mark 79 = .ok (.ireturn, 1) := by decide +kernel
theorem dX12_mark_80 : decode cX12_mark 80 = .ok (.aload_n 0, 1) := by decide +kernel
theorem dX12_mark_81 : decode cX12_mark 81 = .ok (.invokevirtual 199, 3) := by decide +kernel
theorem dX12_mark_84 : decode cX12_mark 84 = .ok (.ireturn, 1) := by decide +kernel
theorem dX12_mark_85 : decode cX12_mark 85 = .ok (.aload_n 0, 1) := by decide +kernel
theorem dX12_mark_86 : decode cX12_mark 86 = .ok (.invokevirtual 167, 3) := by decide +kernel
theorem dX12_mark_89 : decode cX12_mark 89 = .ok (.ireturn, 1) := by decide +kernel
theorem dX12_mark_90 : decode cX12_mark 90 = .ok (.aload_n 0, 1) := by decide +kernel
theorem dX12_mark_91 : decode cX12_mark 91 = .ok (.iload_n 1, 1) := by decide +kernel
theorem dX12_mark_92 : decode cX12_mark 92 = .ok (.invokevirtual 202, 3) := by decide +kernel
theorem dX12_mark_95 : decode cX12_mark 95 = .ok (.ireturn, 1) := by decide +kernel
theorem dX12_flicks_0 : decode cX12_flicks 0 = .ok (.aload_n 0, 1) := by decide +kernel
theorem dX12_flicks_1 : decode cX12_flicks 1 = .ok (.iload_n 1, 1) := by decide +kernel
theorem dX12_flicks_2 : decode cX12_flicks 2 = .ok (.invokevirtual 183, 3) := by decide +kernel
theorem dX12_flicks_5 : decode cX12_flicks 5 = .ok (.ifCond .eq 15, 3) := by decide +kernel
theorem dX12_flicks_8 : decode cX12_flicks 8 = .ok (.iload_n 2, 1) := by decide +kernel
theorem dX12_flicks_9 : decode cX12_flicks 9 = .ok (.i2l, 1) := by decide +kernel
theorem dX12_flicks_10 : decode cX12_flicks 10 = .ok (.lconst 1, 1) := by decide +kernel
theorem dX12_flicks_11 : decode cX12_flicks 11 = .ok (.ldc2_w 61, 3) := by decide +kernel
theorem dX12_flicks_14 : decode cX12_flicks 14 = .ok (.invokestatic 57, 3) := by decide +kernel
theorem dX12_flicks_17 : decode cX12_flicks 17 = .ok (.ifCond .ne 5, 3) := by decide +kernel
theorem dX12_flicks_20 : decode cX12_flicks 20 = .ok (.iconst (-1), 1) := by decide +kernel
theorem dX12_flicks_21 : decode cX12_flicks 21 = .ok (.ireturn, 1) := by decide +kernel
theorem dX12_flicks_22 : decode cX12_flicks 22 = .ok (.aload_n 0, 1) := by decide +kernel
theorem dX12_flicks_23 : decode cX12_flicks 23 = .ok (.getfield 7, 3) := by decide +kernel
theorem dX12_flicks_26 : decode cX12_flicks 26 = .ok (.iconst 0, 1) := by decide +kernel
theorem dX12_flicks_27 : decode cX12_flicks 27 = .ok (.iaload, 1) := by decide +kernel
theorem dX12_flicks_28 : decode cX12_flicks 28 = .ok (.ifCond .le 6, 3) := by decide +kernel
theorem dX12_flicks_31 : decode cX12_flicks 31 = .ok (.bipush (-4), 2) := by decide +kernel
theorem dX12_flicks_33 : decode cX12_flicks 33 = .ok (.ireturn, 1) := by decide +kernel
theorem dX12_flicks_34 : decode cX12_flicks 34 = .ok (.aload_n 0, 1) := by decide +kernel
theorem dX12_flicks_35 : decode cX12_flicks 35 = .ok (.iload_n 1, 1) := by decide +kernel
theorem dX12_flicks_36 : decode cX12_flicks 36 = .ok (.invokevirtual 151, 3) := by decide +kernel
theorem dX12_flicks_39 : decode cX12_flicks 39 = .ok (.istore_n 3, 1) := by decide +kernel
theorem dX12_flicks_40 : decode cX12_flicks 40 = .ok (.aload_n 0, 1) := by decide +kernel
theorem dX12_flicks_41 : decode cX12_flicks 41 = .ok (.getfield 7, 3) := by decide +kernel
theorem dX12_flicks_44 : decode cX12_flicks 44 = .ok (.iconst 1, 1) := by decide +kernel
theorem dX12_flicks_45 : decode cX12_flicks 45 = .ok (.iload_n 1, 1) := by decide +kernel
theorem dX12_flicks_46 : decode cX12_flicks 46 = .ok (.iadd, 1) := by decide +kernel
theorem dX12_flicks_47 : decode cX12_flicks 47 = .ok (.iload_n 2, 1) := by decide +kernel
theorem dX12_flicks_48 : decode cX12_flicks 48 = .ok (.iastore, 1) := by decide +kernel
theorem dX12_flicks_49 : decode cX12_flicks 49 = .ok (.iload_n 3, 1) := by decide +kernel
theorem dX12_flicks_50 : decode cX12_flicks 50 = .ok (.ireturn, 1) := by decide +kernel
theorem dX12_doDeed_0 : decode cX12_doDeed 0 = .ok (.iconst 0, 1) := by decide +kernel
theorem dX12_doDeed_1 : decode cX12_doDeed 1 = .ok (.istore_n 3, 1) := by decide +kernel
theorem dX12_doDeed_2 : decode cX12_doDeed 2 = .ok (.iconst 0, 1) := by decide +kernel
theorem dX12_doDeed_3 : decode cX12_doDeed 3 = .ok (.istore 4, 2) := by decide +kernel
theorem dX12_doDeed_5 : decode cX12_doDeed 5 = .ok (.iload 4, 2) := by decide +kernel
theorem dX12_doDeed_7 : decode cX12_doDeed 7 = .ok (.aload_n 0, 1) := by decide +kernel
theorem dX12_doDeed_8 : decode cX12_doDeed 8 = .ok (.getfield 139, 3) := by decide +kernel
theorem dX12_doDeed_11 : decode cX12_doDeed 11 = .ok (.if_icmp .ge 37, 3) := by decide +kernel
theorem dX12_doDeed_14 : decode cX12_doDeed 14 = .ok (.iload_n 3, 1) := by decide +kernel
theorem dX12_doDeed_15 : decode cX12_doDeed 15 = .ok (.aload_n 0, 1) := by decide +kernel
theorem dX12_doDeed_16 : decode cX12_doDeed 16 = .ok (.aload_n 0, 1) := by decide +kernel
theorem dX12_doDeed_17 : decode cX12_doDeed 17 = .ok (.getfield 16, 3) := by decide +kernel
theorem dX12_doDeed_20 : decode cX12_doDeed 20 = .ok (.iload 4, 2) := by decide +kernel
theorem dX12_doDeed_22 : decode cX12_doDeed 22 = .ok (.laload, 1) := by decide +kernel
theorem dX12_doDeed_23 : decode cX12_doDeed 23 = .ok (.iload_n 1, 1) := by decide +kernel
theorem dX12_doDeed_24 : decode cX12_doDeed 24 = .ok (.iload_n 2, 1) := by decide +kernel
theorem dX12_doDeed_25 : decode cX12_doDeed 25 = .ok (.iload 4, 2) := by decide +kernel
theorem dX12_doDeed_27 : decode cX12_doDeed 27 = .ok (.invokevirtual 173, 3) := by decide +kernel
theorem dX12_doDeed_30 : decode cX12_doDeed 30 = .ok (.lconst 0, 1) := by decide +kernel
theorem dX12_doDeed_31 : decode cX12_doDeed 31 = .ok (.lcmp, 1) := by decide +kernel
theorem dX12_doDeed_32 : decode cX12_doDeed 32 = .ok (.ifCond .le 7, 3) := by decide +kernel
theorem dX12_doDeed_35 : decode cX12_doDeed 35 = .ok (.iconst 1, 1) := by decide +kernel
theorem dX12_doDeed_36 : decode cX12_doDeed 36 = .ok (.goto 4, 3) := by decide +kernel
theorem dX12_doDeed_39 : decode cX12_doDeed 39 = .ok (.iconst 0, 1) := by decide +kernel
theorem dX12_doDeed_40 : decode cX12_doDeed 40 = .ok (.iadd, 1) := by decide +kernel
theorem dX12_doDeed_41 : decode cX12_doDeed 41 = .ok (.istore_n 3, 1) := by decide +kernel
theorem dX12_doDeed_42 : decode cX12_doDeed 42 = .ok (.iinc 4 1, 3) := by decide +kernel
theorem dX12_doDeed_45 : decode cX12_doDeed 45 = .ok (.goto (-40), 3) := by decide +kernel
theorem dX12_doDeed_48 : decode cX12_doDeed 48 = .ok (.iload_n 3, 1) := by decide +kernel
theorem dX12_doDeed_49 : decode cX12_doDeed 49 = .ok (.ifCond .ne 9, 3) := by decide +kernel
theorem dX12_doDeed_52 : decode cX12_doDeed 52 = .ok (.aload_n 0, 1) := by decide +kernel
theorem dX12_doDeed_53 : decode cX12_doDeed 53 = .ok (.iconst 4, 1) := by decide +kernel
theorem dX12_doDeed_54 : decode cX12_doDeed 54 = .ok (.invokevirtual 67, 3) := by decide +kernel
theorem dX12_doDeed_57 : decode cX12_doDeed 57 = .ok (.ireturn, 1) := by decide +kernel
theorem dX12_doDeed_58 : decode cX12_doDeed 58 = .ok (.aload_n 0, 1) := by decide +kernel
theorem dX12_doDeed_59 : decode cX12_doDeed 59 = .ok (.getfield 7, 3) := by decide +kernel
theorem dX12_doDeed_62 : decode cX12_doDeed 62 = .ok (.iconst 0, 1) := by decide +kernel
theorem dX12_doDeed_63 : decode cX12_doDeed 63 = .ok (.iaload, 1) := by decide +kernel
theorem dX12_doDeed_64 : decode cX12_doDeed 64 = .ok (.bipush 16, 2) := by decide +kernel
theorem dX12_doDeed_66 : decode cX12_doDeed 66 = .ok (.if_icmp .ne 6, 3) := by decide +kernel
theorem dX12_doDeed_69 : decode cX12_doDeed 69 = .ok (.bipush (-2), 2) := by decide +kernel
theorem dX12_doDeed_71 : decode cX12_doDeed 71 = .ok (.ireturn, 1) := by decide +kernel
theorem dX12_doDeed_72 : decode cX12_doDeed 72 = .ok (.aload_n 0, 1) := by decide +kernel
theorem dX12_doDeed_73 : decode cX12_doDeed 73 = .ok (.getfield 7, 3) := by decide +kernel
theorem dX12_doDeed_76 : decode cX12_doDeed 76 = .ok (.bipush 6, 2) := by decide +kernel
theorem dX12_doDeed_78 : decode cX12_doDeed 78 = .ok (.aload_n 0, 1) := by decide +kernel
theorem dX12_doDeed_79 : decode cX12_doDeed 79 = .ok (.getfield 7, 3) := by decide +kernel
theorem dX12_doDeed_82 : decode cX12_doDeed 82 = .ok (.iconst 0, 1) := by decide +kernel
theorem dX12_doDeed_83 : decode cX12_doDeed 83 = .ok (.iaload, 1) := by decide +kernel
theorem dX12_doDeed_84 : decode cX12_doDeed 84 = .ok (.iadd, 1) := by decide +kernel
theorem dX12_doDeed_85 : decode cX12_doDeed 85 = .ok (.iload_n 1, 1) := by decide +kernel
theorem dX12_doDeed_86 : decode cX12_doDeed 86 = .ok (.iastore, 1) := by decide +kernel
theorem dX12_doDeed_87 : decode cX12_doDeed 87 = .ok (.aload_n 0, 1) := by decide +kernel
theorem dX12_doDeed_88 : decode cX12_doDeed 88 = .ok (.getfield 7, 3) := by decide +kernel
theorem dX12_doDeed_91 : decode cX12_doDeed 91 = .ok (.bipush 22, 2) := by decide +kernel
theorem dX12_doDeed_93 : decode cX12_doDeed 93 = .ok (.aload_n 0, 1) := by decide +kernel
theorem dX12_doDeed_94 : decode cX12_doDeed 94 = .ok (.getfield 7, 3) := by decide +kernel
theorem dX12_doDeed_97 : decode cX12_doDeed 97 = .ok (.iconst 0, 1) := by decide +kernel
theorem dX12_doDeed_98 : decode cX12_doDeed 98 = .ok (.iaload, 1) := by decide +kernel
theorem dX12_doDeed_99 : decode cX12_doDeed 99 = .ok (.iadd, 1) := by decide +kernel
theorem dX12_doDeed_100 : decode cX12_doDeed 100 = .ok (.iload_n 2, 1) := by decide +kernel
theorem dX12_doDeed_101 : decode cX12_doDeed 101 = .ok (.iastore, 1) := by decide +kernel
theorem dX12_doDeed_102 : decode cX12_doDeed 102 = .ok (.aload_n 0, 1) := by decide +kernel
theorem dX12_doDeed_103 : decode cX12_doDeed 103 = .ok (.getfield 7, 3) := by decide +kernel
theorem dX12_doDeed_106 : decode cX12_doDeed 106 = .ok (.iconst 0, 1) := by decide +kernel
theorem dX12_doDeed_107 : decode cX12_doDeed 107 = .ok (.dup2, 1) := by decide +kernel
theorem dX12_doDeed_108 : decode cX12_doDeed 108 = .ok (.iaload, 1) := by decide +kernel
theorem dX12_doDeed_109 : decode cX12_doDeed 109 = .ok (.iconst 1, 1) := by decide +kernel
theorem dX12_doDeed_110 : decode cX12_doDeed 110 = .ok (.iadd, 1) := by decide +kernel
theorem dX12_doDeed_111 : decode cX12_doDeed 111 = .ok (.iastore, 1) := by decide +kernel
theorem dX12_doDeed_112 : decode cX12_doDeed 112 = .ok (.aload_n 0, 1) := by decide +kernel
theorem dX12_doDeed_113 : decode cX12_doDeed 113 = .ok (.invokevirtual 145, 3) := by decide +kernel
theorem dX12_doDeed_116 : decode cX12_doDeed 116 = .ok (.iload_n 3, 1) := by decide +kernel
theorem dX12_doDeed_117 : decode cX12_doDeed 117 = .ok (.ireturn, 1) := by decide +kernel
theorem dX12_look_0 : decode cX12_look 0 = .ok (.aload_n 0, 1) := by decide +kernel
theorem dX12_look_1 : decode cX12_look 1 = .ok (.iload_n 1, 1) := by decide +kernel
theorem dX12_look_2 : decode cX12_look 2 = .ok (.invokevirtual 183, 3) := by decide +kernel
theorem dX12_look_5 : decode cX12_look 5 = .ok (.ifCond .eq 20, 3) := by decide +kernel
theorem dX12_look_8 : decode cX12_look 8 = .ok (.aload_n 0, 1) := by decide +kernel
theorem dX12_look_9 : decode cX12_look 9 = .ok (.iload_n 2, 1) := by decide +kernel
theorem dX12_look_10 : decode cX12_look 10 = .ok (.invokevirtual 205, 3) := by decide +kernel
theorem dX12_look_13 : decode cX12_look 13 = .ok (.ifCond .eq 12, 3) := by decide +kernel
theorem dX12_look_16 : decode cX12_look 16 = .ok (.aload_n 0, 1) := by decide +kernel
theorem dX12_look_17 : decode cX12_look 17 = .ok (.iload_n 1, 1) := by decide +kernel
theorem dX12_look_18 : decode cX12_look 18 = .ok (.iload_n 2, 1) := by decide +kernel
theorem dX12_look_19 : decode cX12_look 19 = .ok (.invokevirtual 208, 3) := by decide +kernel
theorem dX12_look_22 : decode cX12_look 22 = .ok (.goto 4, 3) := by decide +kernel
theorem dX12_look_25 : decode cX12_look 25 = .ok (.iconst (-1), 1) := by decide +kernel
theorem dX12_look_26 : decode cX12_look 26 = .ok (.ireturn, 1) := by decide +kernel
theorem dX12_vain_0 : decode cX12_vain 0 = .ok (.aload_n 0, 1) := by decide +kernel
theorem dX12_vain_1 : decode cX12_vain 1 = .ok (.iload_n 1, 1) := by decide +kernel
theorem dX12_vain_2 : decode cX12_vain 2 = .ok (.invokevirtual 205, 3) := by decide +kernel
theorem dX12_vain_5 : decode cX12_vain 5 = .ok (.ifCond .eq 13, 3) := by decide +kernel
theorem dX12_vain_8 : decode cX12_vain 8 = .ok (.aload_n 0, 1) := by decide +kernel
theorem dX12_vain_9 : decode cX12_vain 9 = .ok (.bipush (-9), 2) := by decide +kernel
theorem dX12_vain_11 : decode cX12_vain 11 = .ok (.iload_n 1, 1) := by decide +kernel
theorem dX12_vain_12 : decode cX12_vain 12 = .ok (.invokevirtual 208, 3) := by decide +kernel
theorem dX12_vain_15 : decode cX12_vain 15 = .ok (.goto 4, 3) := by decide +kernel
theorem dX12_vain_18 : decode cX12_vain 18 = .ok (.iconst (-1), 1) := by decide +kernel
theorem dX12_vain_19 : decode cX12_vain 19 = .ok (.ireturn, 1) := by decide +kernel
theorem dX12_undo_0 : decode cX12_undo 0 = .ok (.iload_n 1, 1) := by decide +kernel
theorem dX12_undo_1 : decode cX12_undo 1 = .ok (.i2l, 1) := by decide +kernel
theorem dX12_undo_2 : decode cX12_undo 2 = .ok (.lconst 0, 1) := by decide +kernel
theorem dX12_undo_3 : decode cX12_undo 3 = .ok (.aload_n 0, 1) := by decide +kernel
theorem dX12_undo_4 : decode cX12_undo 4 = .ok (.getfield 7, 3) := by decide +kernel
theorem dX12_undo_7 : decode cX12_undo 7 = .ok (.iconst 0, 1) := by decide +kernel
theorem dX12_undo_8 : decode cX12_undo 8 = .ok (.iaload, 1) := by decide +kernel
theorem dX12_undo_9 : decode cX12_undo 9 = .ok (.i2l, 1) := by decide +kernel
theorem dX12_undo_10 : decode cX12_undo 10 = .ok (.invokestatic 57, 3) := by decide +kernel
theorem dX12_undo_13 : decode cX12_undo 13 = .ok (.ifCond .ne 5, 3) := by decide +kernel
theorem dX12_undo_16 : decode cX12_undo 16 = .ok (.iconst (-1), 1) := by decide +kernel
theorem dX12_undo_17 : decode cX12_undo 17 = .ok (.ireturn, 1) := by decide +kernel
theorem dX12_undo_18 : decode cX12_undo 18 = .ok (.aload_n 0, 1) := by decide +kernel
theorem dX12_undo_19 : decode cX12_undo 19 = .ok (.getfield 7, 3) := by decide +kernel
theorem dX12_undo_22 : decode cX12_undo 22 = .ok (.iconst 0, 1) := by decide +kernel
theorem dX12_undo_23 : decode cX12_undo 23 = .ok (.iaload, 1) := by decide +kernel
theorem dX12_undo_24 : decode cX12_undo 24 = .ok (.iload_n 1, 1) := by decide +kernel
theorem dX12_undo_25 : decode cX12_undo 25 = .ok (.isub, 1) := by decide +kernel
theorem dX12_undo_26 : decode cX12_undo 26 = .ok (.istore_n 2, 1) := by decide +kernel
theorem dX12_undo_27 : decode cX12_undo 27 = .ok (.aload_n 0, 1) := by decide +kernel
theorem dX12_undo_28 : decode cX12_undo 28 = .ok (.getfield 7, 3) := by decide +kernel
theorem dX12_undo_31 : decode cX12_undo 31 = .ok (.iconst 0, 1) := by decide +kernel
theorem dX12_undo_32 : decode cX12_undo 32 = .ok (.iload_n 1, 1) := by decide +kernel
theorem dX12_undo_33 : decode cX12_undo 33 = .ok (.iastore, 1) := by decide +kernel
theorem dX12_undo_34 : decode cX12_undo 34 = .ok (.aload_n 0, 1) := by decide +kernel
theorem dX12_undo_35 : decode cX12_undo 35 = .ok (.invokevirtual 145, 3) := by decide +kernel
theorem dX12_undo_38 : decode cX12_undo 38 = .ok (.iload_n 2, 1) := by decide +kernel
theorem dX12_undo_39 : decode cX12_undo 39 = .ok (.ireturn, 1) := by decide +kernel
theorem dX12_copyShed_0 : decode cX12_copyShed 0 = .ok (.iconst 0, 1) := by decide +kernel
theorem dX12_copyShed_1 : decode cX12_copyShed 1 = .ok (.istore_n 3, 1) := by decide +kernel
theorem dX12_copyShed_2 : decode cX12_copyShed 2 = .ok (.iload_n 3, 1) := by decide +kernel
theorem dX12_copyShed_3 : decode cX12_copyShed 3 = .ok (.bipush 38, 2) := by decide +kernel
theorem dX12_copyShed_5 : decode cX12_copyShed 5 = .ok (.if_icmp .ge 25, 3) := by decide +kernel
theorem dX12_copyShed_8 : decode cX12_copyShed 8 = .ok (.aload_n 0, 1) := by decide +kernel
theorem dX12_copyShed_9 : decode cX12_copyShed 9 = .ok (.getfield 7, 3) := by decide +kernel
theorem dX12_copyShed_12 : decode cX12_copyShed 12 = .ok (.iload_n 2, 1) := by decide +kernel
theorem dX12_copyShed_13 : decode cX12_copyShed 13 = .ok (.iload_n 3, 1) := by decide +kernel
theorem dX12_copyShed_14 : decode cX12_copyShed 14 = .ok (.iadd, 1) := by decide +kernel
theorem dX12_copyShed_15 : decode cX12_copyShed 15 = .ok (.aload_n 0, 1) := by decide +kernel
theorem dX12_copyShed_16 : decode cX12_copyShed 16 = .ok (.getfield 7, 3) := by decide +kernel
theorem dX12_copyShed_19 : decode cX12_copyShed 19 = .ok (.iload_n 1, 1) := by decide +kernel
theorem dX12_copyShed_20 : decode cX12_copyShed 20 = .ok (.iload_n 3, 1) := by decide +kernel
theorem dX12_copyShed_21 : decode cX12_copyShed 21 = .ok (.iadd, 1) := by decide +kernel
theorem dX12_copyShed_22 : decode cX12_copyShed 22 = .ok (.iaload, 1) := by decide +kernel
theorem dX12_copyShed_23 : decode cX12_copyShed 23 = .ok (.iastore, 1) := by decide +kernel
theorem dX12_copyShed_24 : decode cX12_copyShed 24 = .ok (.iinc 3 1, 3) := by decide +kernel
theorem dX12_copyShed_27 : decode cX12_copyShed 27 = .ok (.goto (-25), 3) := by decide +kernel
theorem dX12_copyShed_30 : decode cX12_copyShed 30 = .ok (.return_, 1) := by decide +kernel
theorem dX12_keep_0 : decode cX12_keep 0 = .ok (.iload_n 1, 1) := by decide +kernel
theorem dX12_keep_1 : decode cX12_keep 1 = .ok (.i2l, 1) := by decide +kernel
theorem dX12_keep_2 : decode cX12_keep 2 = .ok (.lconst 0, 1) := by decide +kernel
theorem dX12_keep_3 : decode cX12_keep 3 = .ok (.ldc2_w 211, 3) := by decide +kernel
theorem dX12_keep_6 : decode cX12_keep 6 = .ok (.invokestatic 57, 3) := by decide +kernel
theorem dX12_keep_9 : decode cX12_keep 9 = .ok (.ifCond .ne 5, 3) := by decide +kernel
theorem dX12_keep_12 : decode cX12_keep 12 = .ok (.iconst (-1), 1) := by decide +kernel
theorem dX12_keep_13 : decode cX12_keep 13 = .ok (.ireturn, 1) := by decide +kernel
theorem dX12_keep_14 : decode cX12_keep 14 = .ok (.aload_n 0, 1) := by decide +kernel
theorem dX12_keep_15 : decode cX12_keep 15 = .ok (.getfield 142, 3) := by decide +kernel
theorem dX12_keep_18 : decode cX12_keep 18 = .ok (.ifCond .ne 6, 3) := by decide +kernel
theorem dX12_keep_21 : decode cX12_keep 21 = .ok (.bipush (-4), 2) := by decide +kernel
theorem dX12_keep_23 : decode cX12_keep 23 = .ok (.ireturn, 1) := by decide +kernel
theorem dX12_keep_24 : decode cX12_keep 24 = .ok (.aload_n 0, 1) := by decide +kernel
theorem dX12_keep_25 : decode cX12_keep 25 = .ok (.iconst 0, 1) := by decide +kernel
theorem dX12_keep_26 : decode cX12_keep 26 = .ok (.bipush 38, 2) := by decide +kernel
theorem dX12_keep_28 : decode cX12_keep 28 = .ok (.iconst 1, 1) := by decide +kernel
theorem dX12_keep_29 : decode cX12_keep 29 = .ok (.iload_n 1, 1) := by decide +kernel
theorem dX12_keep_30 : decode cX12_keep 30 = .ok (.iadd, 1) := by decide +kernel
theorem dX12_keep_31 : decode cX12_keep 31 = .ok (.imul, 1) := by decide +kernel
theorem dX12_keep_32 : decode cX12_keep 32 = .ok (.invokevirtual 213, 3) := by decide +kernel
theorem dX12_keep_35 : decode cX12_keep 35 = .ok (.aload_n 0, 1) := by decide +kernel
theorem dX12_keep_36 : decode cX12_keep 36 = .ok (.getfield 7, 3) := by decide +kernel
theorem dX12_keep_39 : decode cX12_keep 39 = .ok (.iconst 0, 1) := by decide +kernel
theorem dX12_keep_40 : decode cX12_keep 40 = .ok (.iaload, 1) := by decide +kernel
theorem dX12_keep_41 : decode cX12_keep 41 = .ok (.ireturn, 1) := by decide +kernel
theorem dX12_on_0 : decode cX12_on 0 = .ok (.iload_n 1, 1) := by decide +kernel
theorem dX12_on_1 : decode cX12_on 1 = .ok (.i2l, 1) := by decide +kernel
theorem dX12_on_2 : decode cX12_on 2 = .ok (.lconst 0, 1) := by decide +kernel
theorem dX12_on_3 : decode cX12_on 3 = .ok (.ldc2_w 211, 3) := by decide +kernel
theorem dX12_on_6 : decode cX12_on 6 = .ok (.invokestatic 57, 3) := by decide +kernel
theorem dX12_on_9 : decode cX12_on 9 = .ok (.ifCond .ne 5, 3) := by decide +kernel
theorem dX12_on_12 : decode cX12_on 12 = .ok (.iconst (-1), 1) := by decide +kernel
theorem dX12_on_13 : decode cX12_on 13 = .ok (.ireturn, 1) := by decide +kernel
theorem dX12_on_14 : decode cX12_on 14 = .ok (.aload_n 0, 1) := by decide +kernel
theorem dX12_on_15 : decode cX12_on 15 = .ok (.getfield 7, 3) := by decide +kernel
theorem dX12_on_18 : decode cX12_on 18 = .ok (.bipush 38, 2) := by decide +kernel
theorem dX12_on_20 : decode cX12_on 20 = .ok (.iconst 1, 1) := by decide +kernel
theorem dX12_on_21 : decode cX12_on 21 = .ok (.iload_n 1, 1) := by decide +kernel
theorem dX12_on_22 : decode cX12_on 22 = .ok (.iadd, 1) := by decide +kernel
theorem dX12_on_23 : decode cX12_on 23 = .ok (.imul, 1) := by decide +kernel
theorem dX12_on_24 : decode cX12_on 24 = .ok (.iconst 0, 1) := by decide +kernel
theorem dX12_on_25 : decode cX12_on 25 = .ok (.iadd, 1) := by decide +kernel
theorem dX12_on_26 : decode cX12_on 26 = .ok (.iaload, 1) := by decide +kernel
theorem dX12_on_27 : decode cX12_on 27 = .ok (.ifCond .ge 9, 3) := by decide +kernel
theorem dX12_on_30 : decode cX12_on 30 = .ok (.aload_n 0, 1) := by decide +kernel
theorem dX12_on_31 : decode cX12_on 31 = .ok (.iconst 1, 1) := by decide +kernel
theorem dX12_on_32 : decode cX12_on 32 = .ok (.invokevirtual 67, 3) := by decide +kernel
theorem dX12_on_35 : decode cX12_on 35 = .ok (.ireturn, 1) := by decide +kernel
theorem dX12_on_36 : decode cX12_on 36 = .ok (.aload_n 0, 1) := by decide +kernel
theorem dX12_on_37 : decode cX12_on 37 = .ok (.bipush 38, 2) := by decide +kernel
theorem dX12_on_39 : decode cX12_on 39 = .ok (.iconst 1, 1) := by decide +kernel
theorem dX12_on_40 : decode cX12_on 40 = .ok (.iload_n 1, 1) := by decide +kernel
theorem dX12_on_41 : decode cX12_on 41 = .ok (.iadd, 1) := by decide +kernel
theorem dX12_on_42 : decode cX12_on 42 = .ok (.imul, 1) := by decide +kernel
theorem dX12_on_43 : decode cX12_on 43 = .ok (.iconst 0, 1) := by decide +kernel
theorem dX12_on_44 : decode cX12_on 44 = .ok (.invokevirtual 213, 3) := by decide +kernel
theorem dX12_on_47 : decode cX12_on 47 = .ok (.aload_n 0, 1) := by decide +kernel
theorem dX12_on_48 : decode cX12_on 48 = .ok (.invokevirtual 145, 3) := by decide +kernel
theorem dX12_on_51 : decode cX12_on 51 = .ok (.aload_n 0, 1) := by decide +kernel
theorem dX12_on_52 : decode cX12_on 52 = .ok (.getfield 7, 3) := by decide +kernel
theorem dX12_on_55 : decode cX12_on 55 = .ok (.iconst 0, 1) := by decide +kernel
theorem dX12_on_56 : decode cX12_on 56 = .ok (.iaload, 1) := by decide +kernel
theorem dX12_on_57 : decode cX12_on 57 = .ok (.ireturn, 1) := by decide +kernel
theorem dX12_tellParts_0 : decode cX12_tellParts 0 = .ok (.lload_n 1, 1) := by decide +kernel
theorem dX12_tellParts_1 : decode cX12_tellParts 1 = .ok (.lstore 5, 2) := by decide +kernel
theorem dX12_tellParts_3 : decode cX12_tellParts 3 = .ok (.lload_n 3, 1) := by decide +kernel
theorem dX12_tellParts_4 : decode cX12_tellParts 4 = .ok (.lstore 7, 2) := by decide +kernel
theorem dX12_tellParts_6 : decode cX12_tellParts 6 = .ok (.lload 7, 2) := by decide +kernel
theorem dX12_tellParts_8 : decode cX12_tellParts 8 = .ok (.lconst 0, 1) := by decide +kernel
theorem dX12_tellParts_9 : decode cX12_tellParts 9 = .ok (.lcmp, 1) := by decide +kernel
theorem dX12_tellParts_10 : decode cX12_tellParts 10 = .ok (.ifCond .eq 21, 3) := by decide +kernel
theorem dX12_tellParts_13 : decode cX12_tellParts 13 = .ok (.lload 5, 2) := by decide +kernel
theorem dX12_tellParts_15 : decode cX12_tellParts 15 = .ok (.lload 7, 2) := by decide +kernel
theorem dX12_tellParts_17 : decode cX12_tellParts 17 = .ok (.lrem, 1) := by decide +kernel
theorem dX12_tellParts_18 : decode cX12_tellParts 18 = .ok (.lstore 9, 2) := by decide +kernel
theorem dX12_tellParts_20 : decode cX12_tellParts 20 = .ok (.lload 7, 2) := by decide +kernel
theorem dX12_tellParts_22 : decode cX12_tellParts 22 = .ok (.lstore 5, 2) := by decide +kernel
theorem dX12_tellParts_24 : decode cX12_tellParts 24 = .ok (.lload 9, 2) := by decide +kernel
theorem dX12_tellParts_26 : decode cX12_tellParts 26 = .ok (.lstore 7, 2) := by decide +kernel
theorem dX12_tellParts_28 : decode cX12_tellParts 28 = .ok (.goto (-22), 3) := by decide +kernel
theorem dX12_tellParts_31 : decode cX12_tellParts 31 = .ok (.aload_n 0, 1) := by decide +kernel
theorem dX12_tellParts_32 : decode cX12_tellParts 32 = .ok (.lload_n 1, 1) := by decide +kernel
theorem dX12_tellParts_33 : decode cX12_tellParts 33 = .ok (.lload 5, 2) := by decide +kernel
theorem dX12_tellParts_35 : decode cX12_tellParts 35 = .ok (.ldiv, 1) := by decide +kernel
theorem dX12_tellParts_36 : decode cX12_tellParts 36 = .ok (.putfield 216, 3) := by decide +kernel
theorem dX12_tellParts_39 : decode cX12_tellParts 39 = .ok (.aload_n 0, 1) := by decide +kernel
theorem dX12_tellParts_40 : decode cX12_tellParts 40 = .ok (.lload_n 3, 1) := by decide +kernel
theorem dX12_tellParts_41 : decode cX12_tellParts 41 = .ok (.lload 5, 2) := by decide +kernel
theorem dX12_tellParts_43 : decode cX12_tellParts 43 = .ok (.ldiv, 1) := by decide +kernel
theorem dX12_tellParts_44 : decode cX12_tellParts 44 = .ok (.putfield 32, 3) := by decide +kernel
theorem dX12_tellParts_47 : decode cX12_tellParts 47 = .ok (.iconst 1, 1) := by decide +kernel
theorem dX12_tellParts_48 : decode cX12_tellParts 48 = .ok (.ireturn, 1) := by decide +kernel
theorem dX12_likely_0 : decode cX12_likely 0 = .ok (.aload_n 0, 1) := by decide +kernel
theorem dX12_likely_1 : decode cX12_likely 1 = .ok (.iload_n 1, 1) := by decide +kernel
theorem dX12_likely_2 : decode cX12_likely 2 = .ok (.invokevirtual 205, 3) := by decide +kernel
theorem dX12_likely_5 : decode cX12_likely 5 = .ok (.ifCond .eq 20, 3) := by decide +kernel
theorem dX12_likely_8 : decode cX12_likely 8 = .ok (.aload_n 0, 1) := by decide +kernel
theorem dX12_likely_9 : decode cX12_likely 9 = .ok (.aload_n 0, 1) := by decide +kernel
theorem dX12_likely_10 : decode cX12_likely 10 = .ok (.getfield 16, 3) := by decide +kernel
theorem dX12_likely_13 : decode cX12_likely 13 = .ok (.iload_n 1, 1) := by decide +kernel
theorem dX12_likely_14 : decode cX12_likely 14 = .ok (.laload, 1) := by decide +kernel
theorem dX12_likely_15 : decode cX12_likely 15 = .ok (.aload_n 0, 1) := by decide +kernel
theorem dX12_likely_16 : decode cX12_likely 16 = .ok (.invokevirtual 219, 3) := by decide +kernel
theorem dX12_likely_19 : decode cX12_likely 19 = .ok (.invokevirtual 223, 3) := by decide +kernel
theorem dX12_likely_22 : decode cX12_likely 22 = .ok (.goto 4, 3) := by decide +kernel
theorem dX12_likely_25 : decode cX12_likely 25 = .ok (.iconst (-1), 1) := by decide +kernel
theorem dX12_likely_26 : decode cX12_likely 26 = .ok (.ireturn, 1) := by decide +kernel
theorem dX12_best_0 : decode cX12_best 0 = .ok (.aload_n 0, 1) := by decide +kernel
theorem dX12_best_1 : decode cX12_best 1 = .ok (.getfield 142, 3) := by decide +kernel
theorem dX12_best_4 : decode cX12_best 4 = .ok (.ifCond .ne 6, 3) := by decide +kernel
theorem dX12_best_7 : decode cX12_best 7 = .ok (.bipush (-4), 2) := by decide +kernel
theorem dX12_best_9 : decode cX12_best 9 = .ok (.ireturn, 1) := by decide +kernel
theorem dX12_best_10 : decode cX12_best 10 = .ok (.iconst 0, 1) := by decide +kernel
theorem dX12_best_11 : decode cX12_best 11 = .ok (.istore_n 1, 1) := by decide +kernel
theorem dX12_best_12 : decode cX12_best 12 = .ok (.aload_n 0, 1) := by decide +kernel
theorem dX12_best_13 : decode cX12_best 13 = .ok (.iconst 0, 1) := by decide +kernel
theorem dX12_best_14 : decode cX12_best 14 = .ok (.putfield 52, 3) := by decide +kernel
theorem dX12_best_17 : decode cX12_best 17 = .ok (.iconst 0, 1) := by decide +kernel
theorem dX12_best_18 : decode cX12_best 18 = .ok (.istore_n 2, 1) := by decide +kernel
theorem dX12_best_19 : decode cX12_best 19 = .ok (.iload_n 2, 1) := by decide +kernel
theorem dX12_best_20 : decode cX12_best 20 = .ok (.aload_n 0, 1) := by decide +kernel
theorem dX12_best_21 : decode cX12_best 21 = .ok (.getfield 139, 3) := by decide +kernel
theorem dX12_best_24 : decode cX12_best 24 = .ok (.if_icmp .ge 84, 3) := by decide +kernel
theorem dX12_best_27 : decode cX12_best 27 = .ok (.aload_n 0, 1) := by decide +kernel
theorem dX12_best_28 : decode cX12_best 28 = .ok (.aload_n 0, 1) := by decide +kernel
theorem dX12_best_29 : decode cX12_best 29 = .ok (.getfield 16, 3) := by decide +kernel
theorem dX12_best_32 : decode cX12_best 32 = .ok (.iload_n 2, 1) := by decide +kernel
theorem dX12_best_33 : decode cX12_best 33 = .ok (.laload, 1) := by decide +kernel
theorem dX12_best_34 : decode cX12_best 34 = .ok (.aload_n 0, 1) := by decide +kernel
theorem dX12_best_35 : decode cX12_best 35 = .ok (.getfield 16, 3) := by decide +kernel
theorem dX12_best_38 : decode cX12_best 38 = .ok (.iload_n 1, 1) := by decide +kernel
theorem dX12_best_39 : decode cX12_best 39 = .ok (.laload, 1) := by decide +kernel
theorem dX12_best_40 : decode cX12_best 40 = .ok (.lcmp, 1) := by decide +kernel
theorem dX12_best_41 : decode cX12_best 41 = .ok (.ifCond .le 7, 3) := by decide +kernel
theorem dX12_best_44 : decode cX12_best 44 = .ok (.iconst 1, 1) := by decide +kernel
theorem dX12_best_45 : decode cX12_best 45 = .ok (.goto 32, 3) := by decide +kernel
theorem dX12_best_48 : decode cX12_best 48 = .ok (.aload_n 0, 1) := by decide +kernel
theorem dX12_best_49 : decode cX12_best 49 = .ok (.getfield 16, 3) := by decide +kernel
theorem dX12_best_52 : decode cX12_best 52 = .ok (.iload_n 2, 1) := by decide +kernel
theorem dX12_best_53 : decode cX12_best 53 = .ok (.laload, 1) := by decide +kernel
theorem dX12_best_54 : decode cX12_best 54 = .ok (.aload_n 0, 1) := by decide +kernel
theorem dX12_best_55 : decode cX12_best 55 = .ok (.getfield 16, 3) := by decide +kernel
theorem dX12_best_58 : decode cX12_best 58 = .ok (.iload_n 1, 1) := by decide +kernel
theorem dX12_best_59 : decode cX12_best 59 = .ok (.laload, 1) := by decide +kernel
theorem dX12_best_60 : decode cX12_best 60 = .ok (.lcmp, 1) := by decide +kernel
theorem dX12_best_61 : decode cX12_best 61 = .ok (.ifCond .ne 12, 3) := by decide +kernel
theorem dX12_best_64 : decode cX12_best 64 = .ok (.aload_n 0, 1) := by decide +kernel
theorem dX12_best_65 : decode cX12_best 65 = .ok (.getfield 52, 3) := by decide +kernel
theorem dX12_best_68 : decode cX12_best 68 = .ok (.iconst 1, 1) := by decide +kernel
theorem dX12_best_69 : decode cX12_best 69 = .ok (.iadd, 1) := by decide +kernel
theorem dX12_best_70 : decode cX12_best 70 = .ok (.goto 7, 3) := by decide +kernel
theorem dX12_best_73 : decode cX12_best 73 = .ok (.aload_n 0, 1) := by decide +kernel
theorem dX12_best_74 : decode cX12_best 74 = .ok (.getfield 52, 3) := by decide +kernel
theorem dX12_best_77 : decode cX12_best 77 = .ok (.putfield 52, 3) := by decide +kernel
theorem dX12_best_80 : decode cX12_best 80 = .ok (.aload_n 0, 1) := by decide +kernel
theorem dX12_best_81 : decode cX12_best 81 = .ok (.getfield 16, 3) := by decide +kernel
theorem dX12_best_84 : decode cX12_best 84 = .ok (.iload_n 2, 1) := by decide +kernel
theorem dX12_best_85 : decode cX12_best 85 = .ok (.laload, 1) := by decide +kernel
theorem dX12_best_86 : decode cX12_best 86 = .ok (.aload_n 0, 1) := by decide +kernel
theorem dX12_best_87 : decode cX12_best 87 = .ok (.getfield 16, 3) := by decide +kernel
theorem dX12_best_90 : decode cX12_best 90 = .ok (.iload_n 1, 1) := by decide +kernel
theorem dX12_best_91 : decode cX12_best 91 = .ok (.laload, 1) := by decide +kernel
theorem dX12_best_92 : decode cX12_best 92 = .ok (.lcmp, 1) := by decide +kernel
theorem dX12_best_93 : decode cX12_best 93 = .ok (.ifCond .le 7, 3) := by decide +kernel
theorem dX12_best_96 : decode cX12_best 96 = .ok (.iload_n 2, 1) := by decide +kernel
theorem dX12_best_97 : decode cX12_best 97 = .ok (.goto 4, 3) := by decide +kernel
theorem dX12_best_100 : decode cX12_best 100 = .ok (.iload_n 1, 1) := by decide +kernel
theorem dX12_best_101 : decode cX12_best 101 = .ok (.istore_n 1, 1) := by decide +kernel
theorem dX12_best_102 : decode cX12_best 102 = .ok (.iinc 2 1, 3) := by decide +kernel
theorem dX12_best_105 : decode cX12_best 105 = .ok (.goto (-86), 3) := by decide +kernel
theorem dX12_best_108 : decode cX12_best 108 = .ok (.iload_n 1, 1) := by decide +kernel
theorem dX12_best_109 : decode cX12_best 109 = .ok (.ireturn, 1) := by decide +kernel
theorem dX12_weightsAt_0 : decode cX12_weightsAt 0 = .ok (.lconst 0, 1) := by decide +kernel
theorem dX12_weightsAt_1 : decode cX12_weightsAt 1 = .ok (.lstore_n 3, 1) := by decide +kernel
theorem dX12_weightsAt_2 : decode cX12_weightsAt 2 = .ok (.iconst 0, 1) := by decide +kernel
theorem dX12_weightsAt_3 : decode cX12_weightsAt 3 = .ok (.istore 5, 2) := by decide +kernel
theorem dX12_weightsAt_5 : decode cX12_weightsAt 5 = .ok (.iload 5, 2) := by decide +kernel
theorem dX12_weightsAt_7 : decode cX12_weightsAt 7 = .ok (.aload_n 0, 1) := by decide +kernel
theorem dX12_weightsAt_8 : decode cX12_weightsAt 8 = .ok (.getfield 139, 3) := by decide +kernel
theorem dX12_weightsAt_11 : decode cX12_weightsAt 11 = .ok (.if_icmp .ge 34, 3) := by decide +kernel
theorem dX12_weightsAt_14 : decode cX12_weightsAt 14 = .ok (.lload_n 3, 1) := by decide +kernel
theorem dX12_weightsAt_15 : decode cX12_weightsAt 15 = .ok (.aload_n 0, 1) := by decide +kernel
theorem dX12_weightsAt_16 : decode cX12_weightsAt 16 = .ok (.iload 5, 2) := by decide +kernel
theorem dX12_weightsAt_18 : decode cX12_weightsAt 18 = .ok (.iload_n 1, 1) := by decide +kernel
theorem dX12_weightsAt_19 : decode cX12_weightsAt 19 = .ok (.invokevirtual 148, 3) := by decide +kernel
theorem dX12_weightsAt_22 : decode cX12_weightsAt 22 = .ok (.iload_n 2, 1) := by decide +kernel
theorem dX12_weightsAt_23 : decode cX12_weightsAt 23 = .ok (.if_icmp .ne 13, 3) := by decide +kernel
theorem dX12_weightsAt_26 : decode cX12_weightsAt 26 = .ok (.aload_n 0, 1) := by decide +kernel
theorem dX12_weightsAt_27 : decode cX12_weightsAt 27 = .ok (.getfield 16, 3) := by decide +kernel
theorem dX12_weightsAt_30 : decode cX12_weightsAt 30 = .ok (.iload 5, 2) := by decide +kernel
theorem dX12_weightsAt_32 : decode cX12_weightsAt 32 = .ok (.laload, 1) := by decide +kernel
theorem dX12_weightsAt_33 : decode cX12_weightsAt 33 = .ok (.goto 4, 3) := by decide +kernel
theorem dX12_weightsAt_36 : decode cX12_weightsAt 36 = .ok (.lconst 0, 1) := by decide +kernel
theorem dX12_weightsAt_37 : decode cX12_weightsAt 37 = .ok (.ladd, 1) := by decide +kernel
theorem dX12_weightsAt_38 : decode cX12_weightsAt 38 = .ok (.lstore_n 3, 1) := by decide +kernel
theorem dX12_weightsAt_39 : decode cX12_weightsAt 39 = .ok (.iinc 5 1, 3) := by decide +kernel
theorem dX12_weightsAt_42 : decode cX12_weightsAt 42 = .ok (.goto (-37), 3) := by decide +kernel
theorem dX12_weightsAt_45 : decode cX12_weightsAt 45 = .ok (.lload_n 3, 1) := by decide +kernel
theorem dX12_weightsAt_46 : decode cX12_weightsAt 46 = .ok (.lreturn, 1) := by decide +kernel
theorem dX12_wheel_0 : decode cX12_wheel 0 = .ok (.iload_n 1, 1) := by decide +kernel
theorem dX12_wheel_1 : decode cX12_wheel 1 = .ok (.i2l, 1) := by decide +kernel
theorem dX12_wheel_2 : decode cX12_wheel 2 = .ok (.lconst 0, 1) := by decide +kernel
theorem dX12_wheel_3 : decode cX12_wheel 3 = .ok (.aload_n 0, 1) := by decide +kernel
theorem dX12_wheel_4 : decode cX12_wheel 4 = .ok (.getfield 130, 3) := by decide +kernel
theorem dX12_wheel_7 : decode cX12_wheel 7 = .ok (.iconst 1, 1) := by decide +kernel
theorem dX12_wheel_8 : decode cX12_wheel 8 = .ok (.isub, 1) := by decide +kernel
theorem dX12_wheel_9 : decode cX12_wheel 9 = .ok (.i2l, 1) := by decide +kernel
theorem dX12_wheel_10 : decode cX12_wheel 10 = .ok (.invokestatic 57, 3) := by decide +kernel
theorem dX12_wheel_13 : decode cX12_wheel 13 = .ok (.ifCond .eq 36, 3) := by decide +kernel
theorem dX12_wheel_16 : decode cX12_wheel 16 = .ok (.iload_n 2, 1) := by decide +kernel
theorem dX12_wheel_17 : decode cX12_wheel 17 = .ok (.i2l, 1) := by decide +kernel
theorem dX12_wheel_18 : decode cX12_wheel 18 = .ok (.lconst 0, 1) := by decide +kernel
theorem dX12_wheel_19 : decode cX12_wheel 19 = .ok (.aload_n 0, 1) := by decide +kernel
theorem dX12_wheel_20 : decode cX12_wheel 20 = .ok (.getfield 133, 3) := by decide +kernel
theorem dX12_wheel_23 : decode cX12_wheel 23 = .ok (.iconst 1, 1) := by decide +kernel
theorem dX12_wheel_24 : decode cX12_wheel 24 = .ok (.isub, 1) := by decide +kernel
theorem dX12_wheel_25 : decode cX12_wheel 25 = .ok (.i2l, 1) := by decide +kernel
theorem dX12_wheel_26 : decode cX12_wheel 26 = .ok (.invokestatic 57, 3) := by decide +kernel
theorem dX12_wheel_29 : decode cX12_wheel 29 = .ok (.ifCond .eq 20, 3) := by decide +kernel
theorem dX12_wheel_32 : decode cX12_wheel 32 = .ok (.aload_n 0, 1) := by decide +kernel
theorem dX12_wheel_33 : decode cX12_wheel 33 = .ok (.aload_n 0, 1) := by decide +kernel
theorem dX12_wheel_34 : decode cX12_wheel 34 = .ok (.iload_n 1, 1) := by decide +kernel
theorem dX12_wheel_35 : decode cX12_wheel 35 = .ok (.iload_n 2, 1) := by decide +kernel
theorem dX12_wheel_36 : decode cX12_wheel 36 = .ok (.invokevirtual 227, 3) := by decide +kernel
theorem dX12_wheel_39 : decode cX12_wheel 39 = .ok (.aload_n 0, 1) := by decide +kernel
theorem dX12_wheel_40 : decode cX12_wheel 40 = .ok (.invokevirtual 219, 3) := by decide +kernel
theorem dX12_wheel_43 : decode cX12_wheel 43 = .ok (.invokevirtual 223, 3) := by decide +kernel
theorem dX12_wheel_46 : decode cX12_wheel 46 = .ok (.goto 4, 3) := by decide +kernel
theorem dX12_wheel_49 : decode cX12_wheel 49 = .ok (.iconst (-1), 1) := by decide +kernel
theorem dX12_wheel_50 : decode cX12_wheel 50 = .ok (.ireturn, 1) := by decide +kernel
theorem dX12_certain_0 : decode cX12_certain 0 = .ok (.aload_n 0, 1) := by decide +kernel
theorem dX12_certain_1 : decode cX12_certain 1 = .ok (.getfield 142, 3) := by decide +kernel
theorem dX12_certain_4 : decode cX12_certain 4 = .ok (.ifCond .ne 6, 3) := by decide +kernel
theorem dX12_certain_7 : decode cX12_certain 7 = .ok (.bipush (-4), 2) := by decide +kernel
theorem dX12_certain_9 : decode cX12_certain 9 = .ok (.ireturn, 1) := by decide +kernel
theorem dX12_certain_10 : decode cX12_certain 10 = .ok (.aload_n 0, 1) := by decide +kernel
theorem dX12_certain_11 : decode cX12_certain 11 = .ok (.invokevirtual 219, 3) := by decide +kernel
theorem dX12_certain_14 : decode cX12_certain 14 = .ok (.lstore_n 1, 1) := by decide +kernel
theorem dX12_certain_15 : decode cX12_certain 15 = .ok (.iconst 0, 1) := by decide +kernel
theorem dX12_certain_16 : decode cX12_certain 16 = .ok (.istore_n 3, 1) := by decide +kernel
theorem dX12_certain_17 : decode cX12_certain 17 = .ok (.aload_n 0, 1) := by decide +kernel
theorem dX12_certain_18 : decode cX12_certain 18 = .ok (.iconst 0, 1) := by decide +kernel
theorem dX12_certain_19 : decode cX12_certain 19 = .ok (.putfield 52, 3) := by decide +kernel
theorem dX12_certain_22 : decode cX12_certain 22 = .ok (.iconst 0, 1) := by decide +kernel
theorem dX12_certain_23 : decode cX12_certain 23 = .ok (.istore 4, 2) := by decide +kernel
theorem dX12_certain_25 : decode cX12_certain 25 = .ok (.iload 4, 2) := by decide +kernel
theorem dX12_certain_27 : decode cX12_certain 27 = .ok (.aload_n 0, 1) := by decide +kernel
theorem dX12_certain_28 : decode cX12_certain 28 = .ok (.getfield 130, 3) := by decide +kernel
theorem dX12_certain_31 : decode cX12_certain 31 = .ok (.if_icmp .ge 85, 3) := by decide +kernel
theorem dX12_certain_34 : decode cX12_certain 34 = .ok (.bipush 9, 2) := by decide +kernel
theorem dX12_certain_36 : decode cX12_certain 36 = .ok (.istore 5, 2) := by decide +kernel
theorem dX12_certain_38 : decode cX12_certain 38 = .ok (.iconst 0, 1) := by decide +kernel
theorem dX12_certain_39 : decode cX12_certain 39 = .ok (.istore 6, 2) := by decide +kernel
theorem dX12_certain_41 : decode cX12_certain 41 = .ok (.iload 6, 2) := by decide +kernel
theorem dX12_certain_43 : decode cX12_certain 43 = .ok (.aload_n 0, 1) := by decide +kernel
theorem dX12_certain_44 : decode cX12_certain 44 = .ok (.getfield 133, 3) := by decide +kernel
theorem dX12_certain_47 : decode cX12_certain 47 = .ok (.if_icmp .ge 31, 3) := by decide +kernel
theorem dX12_certain_50 : decode cX12_certain 50 = .ok (.aload_n 0, 1) := by decide +kernel
theorem dX12_certain_51 : decode cX12_certain 51 = .ok (.iload 4, 2) := by decide +kernel
theorem dX12_certain_53 : decode cX12_certain 53 = .ok (.iload 6, 2) := by decide +kernel
theorem dX12_certain_55 : decode cX12_certain 55 = .ok (.invokevirtual 227, 3) := by decide +kernel
theorem dX12_certain_58 : decode cX12_certain 58 = .ok (.lload_n 1, 1) := by decide +kernel
theorem dX12_certain_59 : decode cX12_certain 59 = .ok (.lcmp, 1) := by decide +kernel
theorem dX12_certain_60 : decode cX12_certain 60 = .ok (.ifCond .ne 8, 3) := by decide +kernel
theorem dX12_certain_63 : decode cX12_certain 63 = .ok (.iload 6, 2) := by decide +kernel
theorem dX12_certain_65 : decode cX12_certain 65 = .ok (.goto 5, 3) := by decide +kernel
theorem dX12_certain_68 : decode cX12_certain 68 = .ok (.iload 5, 2) := by decide +kernel
theorem dX12_certain_70 : decode cX12_certain 70 = .ok (.istore 5, 2) := by decide +kernel
theorem dX12_certain_72 : decode cX12_certain 72 = .ok (.iinc 6 1, 3) := by decide +kernel
theorem dX12_certain_75 : decode cX12_certain 75 = .ok (.goto (-34), 3) := by decide +kernel
theorem dX12_certain_78 : decode cX12_certain 78 = .ok (.iload_n 3, 1) := by decide +kernel
theorem dX12_certain_79 : decode cX12_certain 79 = .ok (.iload 5, 2) := by decide +kernel
theorem dX12_certain_81 : decode cX12_certain 81 = .ok (.bipush 9, 2) := by decide +kernel
theorem dX12_certain_83 : decode cX12_certain 83 = .ok (.if_icmp .ge 10, 3) := by decide +kernel
theorem dX12_certain_86 : decode cX12_certain 86 = .ok (.iconst 1, 1) := by decide +kernel
theorem dX12_certain_87 : decode cX12_certain 87 = .ok (.iload 4, 2) := by decide +kernel
theorem dX12_certain_89 : decode cX12_certain 89 = .ok (.ishl, 1) := by decide +kernel
theorem dX12_certain_90 : decode cX12_certain 90 = .ok (.goto 4, 3) := by decide +kernel
theorem dX12_certain_93 : decode cX12_certain 93 = .ok (.iconst 0, 1) := by decide +kernel
theorem dX12_certain_94 : decode cX12_certain 94 = .ok (.ior, 1) := by decide +kernel
theorem dX12_certain_95 : decode cX12_certain 95 = .ok (.istore_n 3, 1) := by decide +kernel
theorem dX12_certain_96 : decode cX12_certain 96 = .ok (.aload_n 0, 1) := by decide +kernel
theorem dX12_certain_97 : decode cX12_certain 97 = .ok (.bipush 10, 2) := by decide +kernel
theorem dX12_certain_99 : decode cX12_certain 99 = .ok (.aload_n 0, 1) := by decide +kernel
theorem dX12_certain_100 : decode cX12_certain 100 = .ok (.getfield 52, 3) := by decide +kernel
theorem dX12_certain_103 : decode cX12_certain 103 = .ok (.imul, 1) := by decide +kernel
theorem dX12_certain_104 : decode cX12_certain 104 = .ok (.iload 5, 2) := by decide +kernel
theorem dX12_certain_106 : decode cX12_certain 106 = .ok (.iadd, 1) := by decide +kernel
theorem dX12_certain_107 : decode cX12_certain 107 = .ok (.putfield 52, 3) := by decide +kernel
theorem dX12_certain_110 : decode cX12_certain 110 = .ok (.iinc 4 1, 3) := by decide +kernel
theorem dX12_certain_113 : decode cX12_certain 113 = .ok (.goto (-88), 3) := by decide +kernel
theorem dX12_certain_116 : decode cX12_certain 116 = .ok (.iload_n 3, 1) := by decide +kernel
theorem dX12_certain_117 : decode cX12_certain 117 = .ok (.ireturn, 1) := by decide +kernel
theorem dX12_laySorted_0 : decode cX12_laySorted 0 = .ok (.iconst 0, 1) := by decide +kernel
theorem dX12_laySorted_1 : decode cX12_laySorted 1 = .ok (.istore_n 1, 1) := by decide +kernel
theorem dX12_laySorted_2 : decode cX12_laySorted 2 = .ok (.iconst 0, 1) := by decide +kernel
theorem dX12_laySorted_3 : decode cX12_laySorted 3 = .ok (.istore_n 2, 1) := by decide +kernel
theorem dX12_laySorted_4 : decode cX12_laySorted 4 = .ok (.iload_n 2, 1) := by decide +kernel
theorem dX12_laySorted_5 : decode cX12_laySorted 5 = .ok (.aload_n 0, 1) := by decide +kernel
theorem dX12_laySorted_6 : decode cX12_laySorted 6 = .ok (.getfield 139, 3) := by decide +kernel
theorem dX12_laySorted_9 : decode cX12_laySorted 9 = .ok (.if_icmp .ge 79, 3) := by decide +kernel
theorem dX12_laySorted_12 : decode cX12_laySorted 12 = .ok (.aload_n 0, 1) := by decide +kernel
theorem dX12_laySorted_13 : decode cX12_laySorted 13 = .ok (.getfield 16, 3) := by decide +kernel
theorem dX12_laySorted_16 : decode cX12_laySorted 16 = .ok (.iload_n 2, 1) := by decide +kernel
theorem dX12_laySorted_17 : decode cX12_laySorted 17 = .ok (.laload, 1) := by decide +kernel
theorem dX12_laySorted_18 : decode cX12_laySorted 18 = .ok (.lconst 0, 1) := by decide +kernel
theorem dX12_laySorted_19 : decode cX12_laySorted 19 = .ok (.lcmp, 1) := by decide +kernel
theorem dX12_laySorted_20 : decode cX12_laySorted 20 = .ok (.ifCond .le 62, 3) := by decide +kernel
theorem dX12_laySorted_23 : decode cX12_laySorted 23 = .ok (.iload_n 1, 1) := by decide +kernel
theorem dX12_laySorted_24 : decode cX12_laySorted 24 = .ok (.istore_n 3, 1) := by decide +kernel
theorem dX12_laySorted_25 : decode cX12_laySorted 25 = .ok (.iload_n 3, 1) := by decide +kernel
theorem dX12_laySorted_26 : decode cX12_laySorted 26 = .ok (.ifCond .le 46, 3) := by decide +kernel
theorem dX12_laySorted_29 : decode cX12_laySorted 29 = .ok (.aload_n 0, 1) := by decide +kernel
theorem dX12_laySorted_30 : decode cX12_laySorted 30 = .ok (.getfield 16, 3) := by decide +kernel
theorem dX12_laySorted_33 : decode cX12_laySorted 33 = .ok (.aload_n 0, 1) := by decide +kernel
theorem dX12_laySorted_34 : decode cX12_laySorted 34 = .ok (.getfield 42, 3) := by decide +kernel
theorem dX12_laySorted_37 : decode cX12_laySorted 37 = .ok (.iload_n 3, 1) := by decide +kernel
theorem dX12_laySorted_38 : decode cX12_laySorted 38 = .ok (.iconst 1, 1) := by decide +kernel
theorem dX12_laySorted_39 : decode cX12_laySorted 39 = .ok (.isub, 1) := by decide +kernel
theorem dX12_laySorted_40 : decode cX12_laySorted 40 = .ok (.iaload, 1) := by decide +kernel
theorem dX12_laySorted_41 : decode cX12_laySorted 41 = .ok (.laload, 1) := by decide +kernel
theorem dX12_laySorted_42 : decode cX12_laySorted 42 = .ok (.aload_n 0, 1) := by decide +kernel
theorem dX12_laySorted_43 : decode cX12_laySorted 43 = .ok (.getfield 16, 3) := by decide +kernel
theorem dX12_laySorted_46 : decode cX12_laySorted 46 = .ok (.iload_n 2, 1) := by decide +kernel
theorem dX12_laySorted_47 : decode cX12_laySorted 47 = .ok (.laload, 1) := by decide +kernel
theorem dX12_laySorted_48 : decode cX12_laySorted 48 = .ok (.lcmp, 1) := by decide +kernel
theorem dX12_laySorted_49 : decode cX12_laySorted 49 = .ok (.ifCond .ge 23, 3) := by decide +kernel
theorem dX12_laySorted_52 : decode cX12_laySorted 52 = .ok (.aload_n 0, 1) := by decide +kernel
theorem dX12_laySorted_53 : decode cX12_laySorted 53 = .ok (.getfield 42, 3) := by decide +kernel
theorem dX12_laySorted_56 : decode cX12_laySorted 56 = .ok (.iload_n 3, 1) := by decide +kernel
theorem dX12_laySorted_57 : decode cX12_laySorted 57 = .ok (.aload_n 0, 1) := by decide +kernel
theorem dX12_laySorted_58 : decode cX12_laySorted 58 = .ok (.getfield 42, 3) := by decide +kernel
theorem dX12_laySorted_61 : decode cX12_laySorted 61 = .ok (.iload_n 3, 1) := by decide +kernel
theorem dX12_laySorted_62 : decode cX12_laySorted 62 = .ok (.iconst 1, 1) := by decide +kernel
theorem dX12_laySorted_63 : decode cX12_laySorted 63 = .ok (.isub, 1) := by decide +kernel
theorem dX12_laySorted_64 : decode cX12_laySorted 64 = .ok (.iaload, 1) := by decide +kernel
theorem dX12_laySorted_65 : decode cX12_laySorted 65 = .ok (.iastore, 1) := by decide +kernel
theorem dX12_laySorted_66 : decode cX12_laySorted 66 = .ok (.iinc 3 (-1), 3) := by decide +kernel
theorem dX12_laySorted_69 : decode cX12_laySorted 69 = .ok (.goto (-44), 3) := by decide +kernel
theorem dX12_laySorted_72 : decode cX12_laySorted 72 = .ok (.aload_n 0, 1) := by decide +kernel
theorem dX12_laySorted_73 : decode cX12_laySorted 73 = .ok (.getfield 42, 3) := by decide +kernel
theorem dX12_laySorted_76 : decode cX12_laySorted 76 = .ok (.iload_n 3, 1) := by decide +kernel
theorem dX12_laySorted_77 : decode cX12_laySorted 77 = .ok (.iload_n 2, 1) := by decide +kernel
theorem dX12_laySorted_78 : decode cX12_laySorted 78 = .ok (.iastore, 1) := by decide +kernel
theorem dX12_laySorted_79 : decode cX12_laySorted 79 = .ok (.iinc 1 1, 3) := by decide +kernel
theorem dX12_laySorted_82 : decode cX12_laySorted 82 = .ok (.iinc 2 1, 3) := by decide +kernel
theorem dX12_laySorted_85 : decode cX12_laySorted 85 = .ok (.goto (-81), 3) := by decide +kernel
theorem dX12_laySorted_88 : decode cX12_laySorted 88 = .ok (.iload_n 1, 1) := by decide +kernel
theorem dX12_laySorted_89 : decode cX12_laySorted 89 = .ok (.ireturn, 1) := by decide +kernel
theorem dX12_order_0 : decode cX12_order 0 = .ok (.iload_n 1, 1) := by decide +kernel
theorem dX12_order_1 : decode cX12_order 1 = .ok (.i2l, 1) := by decide +kernel
theorem dX12_order_2 : decode cX12_order 2 = .ok (.lconst 1, 1) := by decide +kernel
theorem dX12_order_3 : decode cX12_order 3 = .ok (.ldc2_w 231, 3) := by decide +kernel
theorem dX12_order_6 : decode cX12_order 6 = .ok (.invokestatic 57, 3) := by decide +kernel
theorem dX12_order_9 : decode cX12_order 9 = .ok (.ifCond .eq 10, 3) := by decide +kernel
theorem dX12_order_12 : decode cX12_order 12 = .ok (.iload_n 2, 1) := by decide +kernel
theorem dX12_order_13 : decode cX12_order 13 = .ok (.invokestatic 63, 3) := by decide +kernel
theorem dX12_order_16 : decode cX12_order 16 = .ok (.ifCond .ne 5, 3) := by decide +kernel
theorem dX12_order_19 : decode cX12_order 19 = .ok (.iconst (-1), 1) := by decide +kernel
theorem dX12_order_20 : decode cX12_order 20 = .ok (.ireturn, 1) := by decide +kernel
theorem dX12_order_21 : decode cX12_order 21 = .ok (.aload_n 0, 1) := by decide +kernel
theorem dX12_order_22 : decode cX12_order 22 = .ok (.getfield 142, 3) := by decide +kernel
theorem dX12_order_25 : decode cX12_order 25 = .ok (.ifCond .ne 6, 3) := by decide +kernel
theorem dX12_order_28 : decode cX12_order 28 = .ok (.bipush (-4), 2) := by decide +kernel
theorem dX12_order_30 : decode cX12_order 30 = .ok (.ireturn, 1) := by decide +kernel
theorem dX12_order_31 : decode cX12_order 31 = .ok (.aload_n 0, 1) := by decide +kernel
theorem dX12_order_32 : decode cX12_order 32 = .ok (.invokevirtual 233, 3) := by decide +kernel
theorem dX12_order_35 : decode cX12_order 35 = .ok (.istore_n 3, 1) := by decide +kernel
theorem dX12_order_36 : decode cX12_order 36 = .ok (.iload_n 3, 1) := by decide +kernel
theorem dX12_order_37 : decode cX12_order 37 = .ok (.iload_n 1, 1) := by decide +kernel
theorem dX12_order_38 : decode cX12_order 38 = .ok (.if_icmp .le 7, 3) := by decide +kernel
theorem dX12_order_41 : decode cX12_order 41 = .ok (.iload_n 1, 1) := by decide +kernel
theorem dX12_order_42 : decode cX12_order 42 = .ok (.goto 4, 3) := by decide +kernel
theorem dX12_order_45 : decode cX12_order 45 = .ok (.iload_n 3, 1) := by decide +kernel
theorem dX12_order_46 : decode cX12_order 46 = .ok (.istore_n 3, 1) := by decide +kernel
theorem dX12_order_47 : decode cX12_order 47 = .ok (.aload_n 0, 1) := by decide +kernel
theorem dX12_order_48 : decode cX12_order 48 = .ok (.iload_n 2, 1) := by decide +kernel
theorem dX12_order_49 : decode cX12_order 49 = .ok (.iload_n 3, 1) := by decide +kernel
theorem dX12_order_50 : decode cX12_order 50 = .ok (.invokevirtual 71, 3) := by decide +kernel
theorem dX12_order_53 : decode cX12_order 53 = .ok (.iconst 0, 1) := by decide +kernel
theorem dX12_order_54 : decode cX12_order 54 = .ok (.istore 4, 2) := by decide +kernel
theorem dX12_order_56 : decode cX12_order 56 = .ok (.iload 4, 2) := by decide +kernel
theorem dX12_order_58 : decode cX12_order 58 = .ok (.iload_n 3, 1) := by decide +kernel
theorem dX12_order_59 : decode cX12_order 59 = .ok (.if_icmp .ge 28, 3) := by decide +kernel
theorem dX12_order_62 : decode cX12_order 62 = .ok (.aload_n 0, 1) := by decide +kernel
theorem dX12_order_63 : decode cX12_order 63 = .ok (.getfield 23, 3) := by decide +kernel
theorem dX12_order_66 : decode cX12_order 66 = .ok (.bipush 40, 2) := by decide +kernel
theorem dX12_order_68 : decode cX12_order 68 = .ok (.iload_n 2, 1) := by decide +kernel
theorem dX12_order_69 : decode cX12_order 69 = .ok (.imul, 1) := by decide +kernel
theorem dX12_order_70 : decode cX12_order 70 = .ok (.iload 4, 2) := by decide +kernel
theorem dX12_order_72 : decode cX12_order 72 = .ok (.iadd, 1) := by decide +kernel
theorem dX12_order_73 : decode cX12_order 73 = .ok (.aload_n 0, 1) := by decide +kernel
theorem dX12_order_74 : decode cX12_order 74 = .ok (.getfield 42, 3) := by decide +kernel
theorem dX12_order_77 : decode cX12_order 77 = .ok (.iload 4, 2) := by decide +kernel
theorem dX12_order_79 : decode cX12_order 79 = .ok (.iaload, 1) := by decide +kernel
theorem dX12_order_80 : decode cX12_order 80 = .ok (.iastore, 1) := by decide +kernel
theorem dX12_order_81 : decode cX12_order 81 = .ok (.iinc 4 1, 3) := by decide +kernel
theorem dX12_order_84 : decode cX12_order 84 = .ok (.goto (-28), 3) := by decide +kernel
theorem dX12_order_87 : decode cX12_order 87 = .ok (.iload_n 3, 1) := by decide +kernel
theorem dX12_order_88 : decode cX12_order 88 = .ok (.ireturn, 1) := by decide +kernel
theorem dX12_tries_0 : decode cX12_tries 0 = .ok (.aload_n 0, 1) := by decide +kernel
theorem dX12_tries_1 : decode cX12_tries 1 = .ok (.getfield 142, 3) := by decide +kernel
theorem dX12_tries_4 : decode cX12_tries 4 = .ok (.ifCond .ne 6, 3) := by decide +kernel
theorem dX12_tries_7 : decode cX12_tries 7 = .ok (.bipush (-4), 2) := by decide +kernel
theorem dX12_tries_9 : decode cX12_tries 9 = .ok (.ireturn, 1) := by decide +kernel
theorem dX12_tries_10 : decode cX12_tries 10 = .ok (.aload_n 0, 1) := by decide +kernel
theorem dX12_tries_11 : decode cX12_tries 11 = .ok (.invokevirtual 233, 3) := by decide +kernel
theorem dX12_tries_14 : decode cX12_tries 14 = .ok (.istore_n 1, 1) := by decide +kernel
theorem dX12_tries_15 : decode cX12_tries 15 = .ok (.lconst 0, 1) := by decide +kernel
theorem dX12_tries_16 : decode cX12_tries 16 = .ok (.lstore_n 2, 1) := by decide +kernel
theorem dX12_tries_17 : decode cX12_tries 17 = .ok (.iconst 0, 1) := by decide +kernel
theorem dX12_tries_18 : decode cX12_tries 18 = .ok (.istore 4, 2) := by decide +kernel
theorem dX12_tries_20 : decode cX12_tries 20 = .ok (.iload 4, 2) := by decide +kernel
theorem dX12_tries_22 : decode cX12_tries 22 = .ok (.iload_n 1, 1) := by decide +kernel
theorem dX12_tries_23 : decode cX12_tries 23 = .ok (.if_icmp .ge 30, 3) := by decide +kernel
theorem dX12_tries_26 : decode cX12_tries 26 = .ok (.lload_n 2, 1) := by decide +kernel
theorem dX12_tries_27 : decode cX12_tries 27 = .ok (.iload 4, 2) := by decide +kernel
theorem dX12_tries_29 : decode cX12_tries 29 = .ok (.iconst 1, 1) := by decide +kernel
theorem dX12_tries_30 : decode cX12_tries 30 = .ok (.iadd, 1) := by decide +kernel
theorem dX12_tries_31 : decode cX12_tries 31 = .ok (.i2l, 1) := by decide +kernel
theorem dX12_tries_32 : decode cX12_tries 32 = .ok (.aload_n 0, 1) := by decide +kernel
theorem dX12_tries_33 : decode cX12_tries 33 = .ok (.getfield 16, 3) := by decide +kernel
theorem dX12_tries_36 : decode cX12_tries 36 = .ok (.aload_n 0, 1) := by decide +kernel
theorem dX12_tries_37 : decode cX12_tries 37 = .ok (.getfield 42, 3) := by decide +kernel
theorem dX12_tries_40 : decode cX12_tries 40 = .ok (.iload 4, 2) := by decide +kernel
theorem dX12_tries_42 : decode cX12_tries 42 = .ok (.iaload, 1) := by decide +kernel
theorem dX12_tries_43 : decode cX12_tries 43 = .ok (.laload, 1) := by decide +kernel
theorem dX12_tries_44 : decode cX12_tries 44 = .ok (.lmul, 1) := by decide +kernel
theorem dX12_tries_45 : decode cX12_tries 45 = .ok (.ladd, 1) := by decide +kernel
theorem dX12_tries_46 : decode cX12_tries 46 = .ok (.lstore_n 2, 1) := by decide +kernel
theorem dX12_tries_47 : decode cX12_tries 47 = .ok (.iinc 4 1, 3) := by decide +kernel
theorem dX12_tries_50 : decode cX12_tries 50 = .ok (.goto (-30), 3) := by decide +kernel
theorem dX12_tries_53 : decode cX12_tries 53 = .ok (.aload_n 0, 1) := by decide +kernel
theorem dX12_tries_54 : decode cX12_tries 54 = .ok (.lload_n 2, 1) := by decide +kernel
theorem dX12_tries_55 : decode cX12_tries 55 = .ok (.aload_n 0, 1) := by decide +kernel
theorem dX12_tries_56 : decode cX12_tries 56 = .ok (.invokevirtual 219, 3) := by decide +kernel
theorem dX12_tries_59 : decode cX12_tries 59 = .ok (.invokevirtual 223, 3) := by decide +kernel
theorem dX12_tries_62 : decode cX12_tries 62 = .ok (.ireturn, 1) := by decide +kernel
theorem dX12_within_0 : decode cX12_within 0 = .ok (.iload_n 1, 1) := by decide +kernel
theorem dX12_within_1 : decode cX12_within 1 = .ok (.i2l, 1) := by decide +kernel
theorem dX12_within_2 : decode cX12_within 2 = .ok (.lconst 0, 1) := by decide +kernel
theorem dX12_within_3 : decode cX12_within 3 = .ok (.ldc2_w 236, 3) := by decide +kernel
theorem dX12_within_6 : decode cX12_within 6 = .ok (.invokestatic 57, 3) := by decide +kernel
theorem dX12_within_9 : decode cX12_within 9 = .ok (.ifCond .ne 5, 3) := by decide +kernel
theorem dX12_within_12 : decode cX12_within 12 = .ok (.iconst (-1), 1) := by decide +kernel
theorem dX12_within_13 : decode cX12_within 13 = .ok (.ireturn, 1) := by decide +kernel
theorem dX12_within_14 : decode cX12_within 14 = .ok (.aload_n 0, 1) := by decide +kernel
theorem dX12_within_15 : decode cX12_within 15 = .ok (.getfield 142, 3) := by decide +kernel
theorem dX12_within_18 : decode cX12_within 18 = .ok (.ifCond .ne 6, 3) := by decide +kernel
theorem dX12_within_21 : decode cX12_within 21 = .ok (.bipush (-4), 2) := by decide +kernel
theorem dX12_within_23 : decode cX12_within 23 = .ok (.ireturn, 1) := by decide +kernel
theorem dX12_within_24 : decode cX12_within 24 = .ok (.aload_n 0, 1) := by decide +kernel
theorem dX12_within_25 : decode cX12_within 25 = .ok (.invokevirtual 233, 3) := by decide +kernel
theorem dX12_within_28 : decode cX12_within 28 = .ok (.istore_n 2, 1) := by decide +kernel
theorem dX12_within_29 : decode cX12_within 29 = .ok (.lconst 0, 1) := by decide +kernel
theorem dX12_within_30 : decode cX12_within 30 = .ok (.lstore_n 3, 1) := by decide +kernel
theorem dX12_within_31 : decode cX12_within 31 = .ok (.iconst 0, 1) := by decide +kernel
theorem dX12_within_32 : decode cX12_within 32 = .ok (.istore 5, 2) := by decide +kernel
theorem dX12_within_34 : decode cX12_within 34 = .ok (.iload 5, 2) := by decide +kernel
theorem dX12_within_36 : decode cX12_within 36 = .ok (.iload_n 2, 1) := by decide +kernel
theorem dX12_within_37 : decode cX12_within 37 = .ok (.if_icmp .ge 30, 3) := by decide +kernel
theorem dX12_within_40 : decode cX12_within 40 = .ok (.iload 5, 2) := by decide +kernel
theorem dX12_within_42 : decode cX12_within 42 = .ok (.iload_n 1, 1) := by decide +kernel
theorem dX12_within_43 : decode cX12_within 43 = .ok (.if_icmp .ge 24, 3) := by decide +kernel
theorem dX12_within_46 : decode cX12_within 46 = .ok (.lload_n 3, 1) := by decide +kernel
theorem dX12_within_47 : decode cX12_within 47 = .ok (.aload_n 0, 1) := by decide +kernel
theorem dX12_within_48 : decode cX12_within 48 = .ok (.getfield 16, 3) := by decide +kernel
theorem dX12_within_51 : decode cX12_within 51 = .ok (.aload_n 0, 1) := by decide +kernel
theorem dX12_within_52 : decode cX12_within 52 = .ok (.getfield 42, 3) := by decide +kernel
theorem dX12_within_55 : decode cX12_within 55 = .ok (.iload 5, 2) := by decide +kernel
theorem dX12_within_57 : decode cX12_within 57 = .ok (.iaload, 1) := by decide +kernel
theorem dX12_within_58 : decode cX12_within 58 = .ok (.laload, 1) := by decide +kernel
theorem dX12_within_59 : decode cX12_within 59 = .ok (.ladd, 1) := by decide +kernel
theorem dX12_within_60 : decode cX12_within 60 = .ok (.lstore_n 3, 1) := by decide +kernel
theorem dX12_within_61 : decode cX12_within 61 = .ok (.iinc 5 1, 3) := by decide +kernel
theorem dX12_within_64 : decode cX12_within 64 = .ok (.goto (-30), 3) := by decide +kernel
theorem dX12_within_67 : decode cX12_within 67 = .ok (.aload_n 0, 1) := by decide +kernel
theorem dX12_within_68 : decode cX12_within 68 = .ok (.lload_n 3, 1) := by decide +kernel
theorem dX12_within_69 : decode cX12_within 69 = .ok (.aload_n 0, 1) := by decide +kernel
theorem dX12_within_70 : decode cX12_within 70 = .ok (.invokevirtual 219, 3) := by decide +kernel
theorem dX12_within_73 : decode cX12_within 73 = .ok (.invokevirtual 223, 3) := by decide +kernel
theorem dX12_within_76 : decode cX12_within 76 = .ok (.ireturn, 1) := by decide +kernel
theorem dX12_seenBy_0 : decode cX12_seenBy 0 = .ok (.lconst 0, 1) := by decide +kernel
theorem dX12_seenBy_1 : decode cX12_seenBy 1 = .ok (.lstore_n 3, 1) := by decide +kernel
theorem dX12_seenBy_2 : decode cX12_seenBy 2 = .ok (.iconst 0, 1) := by decide +kernel
theorem dX12_seenBy_3 : decode cX12_seenBy 3 = .ok (.istore 5, 2) := by decide +kernel
theorem dX12_seenBy_5 : decode cX12_seenBy 5 = .ok (.iload 5, 2) := by decide +kernel
theorem dX12_seenBy_7 : decode cX12_seenBy 7 = .ok (.aload_n 0, 1) := by decide +kernel
theorem dX12_seenBy_8 : decode cX12_seenBy 8 = .ok (.getfield 139, 3) := by decide +kernel
theorem dX12_seenBy_11 : decode cX12_seenBy 11 = .ok (.if_icmp .ge 29, 3) := by decide +kernel
theorem dX12_seenBy_14 : decode cX12_seenBy 14 = .ok (.lload_n 3, 1) := by decide +kernel
theorem dX12_seenBy_15 : decode cX12_seenBy 15 = .ok (.aload_n 0, 1) := by decide +kernel
theorem dX12_seenBy_16 : decode cX12_seenBy 16 = .ok (.getfield 16, 3) := by decide +kernel
theorem dX12_seenBy_19 : decode cX12_seenBy 19 = .ok (.iload 5, 2) := by decide +kernel
theorem dX12_seenBy_21 : decode cX12_seenBy 21 = .ok (.laload, 1) := by decide +kernel
theorem dX12_seenBy_22 : decode cX12_seenBy 22 = .ok (.aload_n 0, 1) := by decide +kernel
theorem dX12_seenBy_23 : decode cX12_seenBy 23 = .ok (.iload_n 1, 1) := by decide +kernel
theorem dX12_seenBy_24 : decode cX12_seenBy 24 = .ok (.iload 5, 2) := by decide +kernel
theorem dX12_seenBy_26 : decode cX12_seenBy 26 = .ok (.iload_n 2, 1) := by decide +kernel
theorem dX12_seenBy_27 : decode cX12_seenBy 27 = .ok (.invokevirtual 170, 3) := by decide +kernel
theorem dX12_seenBy_30 : decode cX12_seenBy 30 = .ok (.i2l, 1) := by decide +kernel
theorem dX12_seenBy_31 : decode cX12_seenBy 31 = .ok (.lmul, 1) := by decide +kernel
theorem dX12_seenBy_32 : decode cX12_seenBy 32 = .ok (.ladd, 1) := by decide +kernel
theorem dX12_seenBy_33 : decode cX12_seenBy 33 = .ok (.lstore_n 3, 1) := by decide +kernel
theorem dX12_seenBy_34 : decode cX12_seenBy 34 = .ok (.iinc 5 1, 3) := by decide +kernel
theorem dX12_seenBy_37 : decode cX12_seenBy 37 = .ok (.goto (-32), 3) := by decide +kernel
theorem dX12_seenBy_40 : decode cX12_seenBy 40 = .ok (.lload_n 3, 1) := by decide +kernel
theorem dX12_seenBy_41 : decode cX12_seenBy 41 = .ok (.lreturn, 1) := by decide +kernel
theorem dX12_worthOf_0 : decode cX12_worthOf 0 = .ok (.lconst 0, 1) := by decide +kernel
theorem dX12_worthOf_1 : decode cX12_worthOf 1 = .ok (.lstore_n 2, 1) := by decide +kernel
theorem dX12_worthOf_2 : decode cX12_worthOf 2 = .ok (.iconst 0, 1) := by decide +kernel
theorem dX12_worthOf_3 : decode cX12_worthOf 3 = .ok (.istore 4, 2) := by decide +kernel
theorem dX12_worthOf_5 : decode cX12_worthOf 5 = .ok (.iload 4, 2) := by decide +kernel
theorem dX12_worthOf_7 : decode cX12_worthOf 7 = .ok (.aload_n 0, 1) := by decide +kernel
theorem dX12_worthOf_8 : decode cX12_worthOf 8 = .ok (.getfield 139, 3) := by decide +kernel
theorem dX12_worthOf_11 : decode cX12_worthOf 11 = .ok (.if_icmp .ge 72, 3) := by decide +kernel
theorem dX12_worthOf_14 : decode cX12_worthOf 14 = .ok (.lconst 0, 1) := by decide +kernel
theorem dX12_worthOf_15 : decode cX12_worthOf 15 = .ok (.lstore 5, 2) := by decide +kernel
theorem dX12_worthOf_17 : decode cX12_worthOf 17 = .ok (.iconst 0, 1) := by decide +kernel
theorem dX12_worthOf_18 : decode cX12_worthOf 18 = .ok (.istore 7, 2) := by decide +kernel
theorem dX12_worthOf_20 : decode cX12_worthOf 20 = .ok (.iload 7, 2) := by decide +kernel
theorem dX12_worthOf_22 : decode cX12_worthOf 22 = .ok (.aload_n 0, 1) := by decide +kernel
theorem dX12_worthOf_23 : decode cX12_worthOf 23 = .ok (.getfield 139, 3) := by decide +kernel
theorem dX12_worthOf_26 : decode cX12_worthOf 26 = .ok (.if_icmp .ge 46, 3) := by decide +kernel
theorem dX12_worthOf_29 : decode cX12_worthOf 29 = .ok (.aload_n 0, 1) := by decide +kernel
theorem dX12_worthOf_30 : decode cX12_worthOf 30 = .ok (.getfield 16, 3) := by decide +kernel
theorem dX12_worthOf_33 : decode cX12_worthOf 33 = .ok (.iload 7, 2) := by decide +kernel
theorem dX12_worthOf_35 : decode cX12_worthOf 35 = .ok (.laload, 1) := by decide +kernel
theorem dX12_worthOf_36 : decode cX12_worthOf 36 = .ok (.aload_n 0, 1) := by decide +kernel
theorem dX12_worthOf_37 : decode cX12_worthOf 37 = .ok (.iload_n 1, 1) := by decide +kernel
theorem dX12_worthOf_38 : decode cX12_worthOf 38 = .ok (.iload 7, 2) := by decide +kernel
theorem dX12_worthOf_40 : decode cX12_worthOf 40 = .ok (.iload 4, 2) := by decide +kernel
theorem dX12_worthOf_42 : decode cX12_worthOf 42 = .ok (.invokevirtual 170, 3) := by decide +kernel
theorem dX12_worthOf_45 : decode cX12_worthOf 45 = .ok (.i2l, 1) := by decide +kernel
theorem dX12_worthOf_46 : decode cX12_worthOf 46 = .ok (.lmul, 1) := by decide +kernel
theorem dX12_worthOf_47 : decode cX12_worthOf 47 = .ok (.lstore 8, 2) := by decide +kernel
theorem dX12_worthOf_49 : decode cX12_worthOf 49 = .ok (.lload 8, 2) := by decide +kernel
theorem dX12_worthOf_51 : decode cX12_worthOf 51 = .ok (.lload 5, 2) := by decide +kernel
theorem dX12_worthOf_53 : decode cX12_worthOf 53 = .ok (.lcmp, 1) := by decide +kernel
theorem dX12_worthOf_54 : decode cX12_worthOf 54 = .ok (.ifCond .le 8, 3) := by decide +kernel
theorem dX12_worthOf_57 : decode cX12_worthOf 57 = .ok (.lload 8, 2) := by decide +kernel
theorem dX12_worthOf_59 : decode cX12_worthOf 59 = .ok (.goto 5, 3) := by decide +kernel
theorem dX12_worthOf_62 : decode cX12_worthOf 62 = .ok (.lload 5, 2) := by decide +kernel
theorem dX12_worthOf_64 : decode cX12_worthOf 64 = .ok (.lstore 5, 2) := by decide +kernel
theorem dX12_worthOf_66 : decode cX12_worthOf 66 = .ok (.iinc 7 1, 3) := by decide +kernel
theorem dX12_worthOf_69 : decode cX12_worthOf 69 = .ok (.goto (-49), 3) := by decide +kernel
theorem dX12_worthOf_72 : decode cX12_worthOf 72 = .ok (.lload_n 2, 1) := by decide +kernel
theorem dX12_worthOf_73 : decode cX12_worthOf 73 = .ok (.lload 5, 2) := by decide +kernel
theorem dX12_worthOf_75 : decode cX12_worthOf 75 = .ok (.ladd, 1) := by decide +kernel
theorem dX12_worthOf_76 : decode cX12_worthOf 76 = .ok (.lstore_n 2, 1) := by decide +kernel
theorem dX12_worthOf_77 : decode cX12_worthOf 77 = .ok (.iinc 4 1, 3) := by decide +kernel
theorem dX12_worthOf_80 : decode cX12_worthOf 80 = .ok (.goto (-75), 3) := by decide +kernel
theorem dX12_worthOf_83 : decode cX12_worthOf 83 = .ok (.lload_n 2, 1) := by decide +kernel
theorem dX12_worthOf_84 : decode cX12_worthOf 84 = .ok (.lreturn, 1) := by decide +kernel
theorem dX12_worth_0 : decode cX12_worth 0 = .ok (.aload_n 0, 1) := by decide +kernel
theorem dX12_worth_1 : decode cX12_worth 1 = .ok (.iload_n 1, 1) := by decide +kernel
theorem dX12_worth_2 : decode cX12_worth 2 = .ok (.invokevirtual 183, 3) := by decide +kernel
theorem dX12_worth_5 : decode cX12_worth 5 = .ok (.ifCond .eq 26, 3) := by decide +kernel
theorem dX12_worth_8 : decode cX12_worth 8 = .ok (.aload_n 0, 1) := by decide +kernel
theorem dX12_worth_9 : decode cX12_worth 9 = .ok (.aload_n 0, 1) := by decide +kernel
theorem dX12_worth_10 : decode cX12_worth 10 = .ok (.iload_n 1, 1) := by decide +kernel
theorem dX12_worth_11 : decode cX12_worth 11 = .ok (.invokevirtual 238, 3) := by decide +kernel
theorem dX12_worth_14 : decode cX12_worth 14 = .ok (.aload_n 0, 1) := by decide +kernel
theorem dX12_worth_15 : decode cX12_worth 15 = .ok (.invokevirtual 219, 3) := by decide +kernel
theorem dX12_worth_18 : decode cX12_worth 18 = .ok (.aload_n 0, 1) := by decide +kernel
theorem dX12_worth_19 : decode cX12_worth 19 = .ok (.iload_n 1, 1) := by decide +kernel
theorem dX12_worth_20 : decode cX12_worth 20 = .ok (.invokevirtual 177, 3) := by decide +kernel
theorem dX12_worth_23 : decode cX12_worth 23 = .ok (.i2l, 1) := by decide +kernel
theorem dX12_worth_24 : decode cX12_worth 24 = .ok (.lmul, 1) := by decide +kernel
theorem dX12_worth_25 : decode cX12_worth 25 = .ok (.invokevirtual 223, 3) := by decide +kernel
theorem dX12_worth_28 : decode cX12_worth 28 = .ok (.goto 4, 3) := by decide +kernel
theorem dX12_worth_31 : decode cX12_worth 31 = .ok (.iconst (-1), 1) := by decide +kernel
theorem dX12_worth_32 : decode cX12_worth 32 = .ok (.ireturn, 1) := by decide +kernel
theorem dX12_whose_0 : decode cX12_whose 0 = .ok (.aload_n 0, 1) := by decide +kernel
theorem dX12_whose_1 : decode cX12_whose 1 = .ok (.getfield 142, 3) := by decide +kernel
theorem dX12_whose_4 : decode cX12_whose 4 = .ok (.ifCond .ne 6, 3) := by decide +kernel
theorem dX12_whose_7 : decode cX12_whose 7 = .ok (.bipush (-4), 2) := by decide +kernel
theorem dX12_whose_9 : decode cX12_whose 9 = .ok (.ireturn, 1) := by decide +kernel
theorem dX12_whose_10 : decode cX12_whose 10 = .ok (.iconst 0, 1) := by decide +kernel
theorem dX12_whose_11 : decode cX12_whose 11 = .ok (.istore_n 1, 1) := by decide +kernel
theorem dX12_whose_12 : decode cX12_whose 12 = .ok (.iconst 0, 1) := by decide +kernel
theorem dX12_whose_13 : decode cX12_whose 13 = .ok (.istore_n 2, 1) := by decide +kernel
theorem dX12_whose_14 : decode cX12_whose 14 = .ok (.aload_n 0, 1) := by decide +kernel
theorem dX12_whose_15 : decode cX12_whose 15 = .ok (.iconst 0, 1) := by decide +kernel
theorem dX12_whose_16 : decode cX12_whose 16 = .ok (.invokevirtual 238, 3) := by decide +kernel
theorem dX12_whose_19 : decode cX12_whose 19 = .ok (.lstore_n 3, 1) := by decide +kernel
theorem dX12_whose_20 : decode cX12_whose 20 = .ok (.lload_n 3, 1) := by decide +kernel
theorem dX12_whose_21 : decode cX12_whose 21 = .ok (.lstore 5, 2) := by decide +kernel
theorem dX12_whose_23 : decode cX12_whose 23 = .ok (.iconst 1, 1) := by decide +kernel
theorem dX12_whose_24 : decode cX12_whose 24 = .ok (.istore 7, 2) := by decide +kernel
theorem dX12_whose_26 : decode cX12_whose 26 = .ok (.iload 7, 2) := by decide +kernel
theorem dX12_whose_28 : decode cX12_whose 28 = .ok (.aload_n 0, 1) := by decide +kernel
theorem dX12_whose_29 : decode cX12_whose 29 = .ok (.getfield 142, 3) := by decide +kernel
theorem dX12_whose_32 : decode cX12_whose 32 = .ok (.if_icmp .ge 75, 3) := by decide +kernel
theorem dX12_whose_35 : decode cX12_whose 35 = .ok (.aload_n 0, 1) := by decide +kernel
theorem dX12_whose_36 : decode cX12_whose 36 = .ok (.iload 7, 2) := by decide +kernel
theorem dX12_whose_38 : decode cX12_whose 38 = .ok (.invokevirtual 238, 3) := by decide +kernel
theorem dX12_whose_41 : decode cX12_whose 41 = .ok (.lstore 8, 2) := by decide +kernel
theorem dX12_whose_43 : decode cX12_whose 43 = .ok (.lload 8, 2) := by decide +kernel
theorem dX12_whose_45 : decode cX12_whose 45 = .ok (.aload_n 0, 1) := by decide +kernel
theorem dX12_whose_46 : decode cX12_whose 46 = .ok (.iload_n 1, 1) := by decide +kernel
theorem dX12_whose_47 : decode cX12_whose 47 = .ok (.invokevirtual 177, 3) := by decide +kernel
theorem dX12_whose_50 : decode cX12_whose 50 = .ok (.i2l, 1) := by decide +kernel
theorem dX12_whose_51 : decode cX12_whose 51 = .ok (.lmul, 1) := by decide +kernel
theorem dX12_whose_52 : decode cX12_whose 52 = .ok (.lload_n 3, 1) := by decide +kernel
theorem dX12_whose_53 : decode cX12_whose 53 = .ok (.aload_n 0, 1) := by decide +kernel
theorem dX12_whose_54 : decode cX12_whose 54 = .ok (.iload 7, 2) := by decide +kernel
theorem dX12_whose_56 : decode cX12_whose 56 = .ok (.invokevirtual 177, 3) := by decide +kernel
theorem dX12_whose_59 : decode cX12_whose 59 = .ok (.i2l, 1) := by decide +kernel
theorem dX12_whose_60 : decode cX12_whose 60 = .ok (.lmul, 1) := by decide +kernel
theorem dX12_whose_61 : decode cX12_whose 61 = .ok (.lcmp, 1) := by decide +kernel
theorem dX12_whose_62 : decode cX12_whose 62 = .ok (.ifCond .le 9, 3) := by decide +kernel
theorem dX12_whose_65 : decode cX12_whose 65 = .ok (.iload 7, 2) := by decide +kernel
theorem dX12_whose_67 : decode cX12_whose 67 = .ok (.istore_n 1, 1) := by decide +kernel
theorem dX12_whose_68 : decode cX12_whose 68 = .ok (.lload 8, 2) := by decide +kernel
theorem dX12_whose_70 : decode cX12_whose 70 = .ok (.lstore_n 3, 1) := by decide +kernel
theorem dX12_whose_71 : decode cX12_whose 71 = .ok (.lload 8, 2) := by decide +kernel
theorem dX12_whose_73 : decode cX12_whose 73 = .ok (.aload_n 0, 1) := by decide +kernel
theorem dX12_whose_74 : decode cX12_whose 74 = .ok (.iload_n 2, 1) := by decide +kernel
theorem dX12_whose_75 : decode cX12_whose 75 = .ok (.invokevirtual 177, 3) := by decide +kernel
theorem dX12_whose_78 : decode cX12_whose 78 = .ok (.i2l, 1) := by decide +kernel
theorem dX12_whose_79 : decode cX12_whose 79 = .ok (.lmul, 1) := by decide +kernel
theorem dX12_whose_80 : decode cX12_whose 80 = .ok (.lload 5, 2) := by decide +kernel
theorem dX12_whose_82 : decode cX12_whose 82 = .ok (.aload_n 0, 1) := by decide +kernel
theorem dX12_whose_83 : decode cX12_whose 83 = .ok (.iload 7, 2) := by decide +kernel
theorem dX12_whose_85 : decode cX12_whose 85 = .ok (.invokevirtual 177, 3) := by decide +kernel
theorem dX12_whose_88 : decode cX12_whose 88 = .ok (.i2l, 1) := by decide +kernel
theorem dX12_whose_89 : decode cX12_whose 89 = .ok (.lmul, 1) := by decide +kernel
theorem dX12_whose_90 : decode cX12_whose 90 = .ok (.lcmp, 1) := by decide +kernel
theorem dX12_whose_91 : decode cX12_whose 91 = .ok (.ifCond .ge 10, 3) := by decide +kernel
theorem dX12_whose_94 : decode cX12_whose 94 = .ok (.iload 7, 2) := by decide +kernel
theorem dX12_whose_96 : decode cX12_whose 96 = .ok (.istore_n 2, 1) := by decide +kernel
theorem dX12_whose_97 : decode cX12_whose 97 = .ok (.lload 8, 2) := by decide +kernel
theorem dX12_whose_99 : decode cX12_whose 99 = .ok (.lstore 5, 2) := by decide +kernel
theorem dX12_whose_101 : decode cX12_whose 101 = .ok (.iinc 7 1, 3) := by decide +kernel
theorem dX12_whose_104 : decode cX12_whose 104 = .ok (.goto (-78), 3) := by decide +kernel
theorem dX12_whose_107 : decode cX12_whose 107 = .ok (.aload_n 0, 1) := by decide +kernel
theorem dX12_whose_108 : decode cX12_whose 108 = .ok (.iload_n 2, 1) := by decide +kernel
theorem dX12_whose_109 : decode cX12_whose 109 = .ok (.putfield 52, 3) := by decide +kernel
theorem dX12_whose_112 : decode cX12_whose 112 = .ok (.iload_n 1, 1) := by decide +kernel
theorem dX12_whose_113 : decode cX12_whose 113 = .ok (.ireturn, 1) := by decide +kernel
theorem dX12_seen_0 : decode cX12_seen 0 = .ok (.aload_n 0, 1) := by decide +kernel
theorem dX12_seen_1 : decode cX12_seen 1 = .ok (.iload_n 1, 1) := by decide +kernel
theorem dX12_seen_2 : decode cX12_seen 2 = .ok (.invokevirtual 183, 3) := by decide +kernel
theorem dX12_seen_5 : decode cX12_seen 5 = .ok (.ifCond .eq 35, 3) := by decide +kernel
theorem dX12_seen_8 : decode cX12_seen 8 = .ok (.aload_n 0, 1) := by decide +kernel
theorem dX12_seen_9 : decode cX12_seen 9 = .ok (.iload_n 2, 1) := by decide +kernel
theorem dX12_seen_10 : decode cX12_seen 10 = .ok (.invokevirtual 205, 3) := by decide +kernel
theorem dX12_seen_13 : decode cX12_seen 13 = .ok (.ifCond .eq 27, 3) := by decide +kernel
theorem dX12_seen_16 : decode cX12_seen 16 = .ok (.aload_n 0, 1) := by decide +kernel
theorem dX12_seen_17 : decode cX12_seen 17 = .ok (.aload_n 0, 1) := by decide +kernel
theorem dX12_seen_18 : decode cX12_seen 18 = .ok (.iload_n 1, 1) := by decide +kernel
theorem dX12_seen_19 : decode cX12_seen 19 = .ok (.iload_n 2, 1) := by decide +kernel
theorem dX12_seen_20 : decode cX12_seen 20 = .ok (.invokevirtual 242, 3) := by decide +kernel
theorem dX12_seen_23 : decode cX12_seen 23 = .ok (.aload_n 0, 1) := by decide +kernel
theorem dX12_seen_24 : decode cX12_seen 24 = .ok (.invokevirtual 219, 3) := by decide +kernel
theorem dX12_seen_27 : decode cX12_seen 27 = .ok (.aload_n 0, 1) := by decide +kernel
theorem dX12_seen_28 : decode cX12_seen 28 = .ok (.iload_n 1, 1) := by decide +kernel
theorem dX12_seen_29 : decode cX12_seen 29 = .ok (.invokevirtual 177, 3) := by decide +kernel
theorem dX12_seen_32 : decode cX12_seen 32 = .ok (.i2l, 1) := by decide +kernel
