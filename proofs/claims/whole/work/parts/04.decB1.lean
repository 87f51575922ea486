theorem dX8_init_0 : decode cX8_init 0 = .ok (.aload_n 0, 1) := by decide +kernel
theorem dX8_init_1 : decode cX8_init 1 = .ok (.invokespecial 3, 3) := by decide +kernel
theorem dX8_init_4 : decode cX8_init 4 = .ok (.aload_n 0, 1) := by decide +kernel
theorem dX8_init_5 : decode cX8_init 5 = .ok (.iconst 0, 1) := by decide +kernel
theorem dX8_init_6 : decode cX8_init 6 = .ok (.putfield 9, 3) := by decide +kernel
theorem dX8_init_9 : decode cX8_init 9 = .ok (.aload_n 0, 1) := by decide +kernel
theorem dX8_init_10 : decode cX8_init 10 = .ok (.new 15, 3) := by decide +kernel
theorem dX8_init_13 : decode cX8_init 13 = .ok (.dup, 1) := by decide +kernel
theorem dX8_init_14 : decode cX8_init 14 = .ok (.invokespecial 17, 3) := by decide +kernel
theorem dX8_init_17 : decode cX8_init 17 = .ok (.putfield 18, 3) := by decide +kernel
theorem dX8_init_20 : decode cX8_init 20 = .ok (.aload_n 0, 1) := by decide +kernel
theorem dX8_init_21 : decode cX8_init 21 = .ok (.new 22, 3) := by decide +kernel
theorem dX8_init_24 : decode cX8_init 24 = .ok (.dup, 1) := by decide +kernel
theorem dX8_init_25 : decode cX8_init 25 = .ok (.iconst 0, 1) := by decide +kernel
theorem dX8_init_26 : decode cX8_init 26 = .ok (.invokespecial 24, 3) := by decide +kernel
theorem dX8_init_29 : decode cX8_init 29 = .ok (.putfield 27, 3) := by decide +kernel
theorem dX8_init_32 : decode cX8_init 32 = .ok (.aload_n 0, 1) := by decide +kernel
theorem dX8_init_33 : decode cX8_init 33 = .ok (.sipush 216, 3) := by decide +kernel
theorem dX8_init_36 : decode cX8_init 36 = .ok (.newarray .long, 2) := by decide +kernel
theorem dX8_init_38 : decode cX8_init 38 = .ok (.putfield 31, 3) := by decide +kernel
theorem dX8_init_41 : decode cX8_init 41 = .ok (.aload_n 0, 1) := by decide +kernel
theorem dX8_init_42 : decode cX8_init 42 = .ok (.sipush 216, 3) := by decide +kernel
theorem dX8_init_45 : decode cX8_init 45 = .ok (.newarray .long, 2) := by decide +kernel
theorem dX8_init_47 : decode cX8_init 47 = .ok (.putfield 35, 3) := by decide +kernel
theorem dX8_init_50 : decode cX8_init 50 = .ok (.aload_n 0, 1) := by decide +kernel
theorem dX8_init_51 : decode cX8_init 51 = .ok (.sipush 216, 3) := by decide +kernel
theorem dX8_init_54 : decode cX8_init 54 = .ok (.newarray .int, 2) := by decide +kernel
theorem dX8_init_56 : decode cX8_init 56 = .ok (.putfield 38, 3) := by decide +kernel
theorem dX8_init_59 : decode cX8_init 59 = .ok (.aload_n 0, 1) := by decide +kernel
theorem dX8_init_60 : decode cX8_init 60 = .ok (.iconst 5, 1) := by decide +kernel
theorem dX8_init_61 : decode cX8_init 61 = .ok (.newarray .long, 2) := by decide +kernel
theorem dX8_init_63 : decode cX8_init 63 = .ok (.putfield 42, 3) := by decide +kernel
theorem dX8_init_66 : decode cX8_init 66 = .ok (.aload_n 0, 1) := by decide +kernel
theorem dX8_init_67 : decode cX8_init 67 = .ok (.iconst 5, 1) := by decide +kernel
theorem dX8_init_68 : decode cX8_init 68 = .ok (.anewarray 45, 3) := by decide +kernel
theorem dX8_init_71 : decode cX8_init 71 = .ok (.putfield 47, 3) := by decide +kernel
theorem dX8_init_74 : decode cX8_init 74 = .ok (.aload_n 0, 1) := by decide +kernel
theorem dX8_init_75 : decode cX8_init 75 = .ok (.iconst 5, 1) := by decide +kernel
theorem dX8_init_76 : decode cX8_init 76 = .ok (.sipush 216, 3) := by decide +kernel
theorem dX8_init_79 : decode cX8_init 79 = .ok (.multianewarray 51 2, 4) := by decide +kernel
theorem dX8_init_83 : decode cX8_init 83 = .ok (.putfield 53, 3) := by decide +kernel
theorem dX8_init_86 : decode cX8_init 86 = .ok (.aload_n 0, 1) := by decide +kernel
theorem dX8_init_87 : decode cX8_init 87 = .ok (.iconst 5, 1) := by decide +kernel
theorem dX8_init_88 : decode cX8_init 88 = .ok (.sipush 216, 3) := by decide +kernel
theorem dX8_init_91 : decode cX8_init 91 = .ok (.multianewarray 51 2, 4) := by decide +kernel
theorem dX8_init_95 : decode cX8_init 95 = .ok (.putfield 56, 3) := by decide +kernel
theorem dX8_init_98 : decode cX8_init 98 = .ok (.return_, 1) := by decide +kernel
theorem dX8_begin_0 : decode cX8_begin 0 = .ok (.aload_n 0, 1) := by decide +kernel
theorem dX8_begin_1 : decode cX8_begin 1 = .ok (.getfield 18, 3) := by decide +kernel
theorem dX8_begin_4 : decode cX8_begin 4 = .ok (.aload_n 1, 1) := by decide +kernel
theorem dX8_begin_5 : decode cX8_begin 5 = .ok (.getfield 59, 3) := by decide +kernel
theorem dX8_begin_8 : decode cX8_begin 8 = .ok (.aload_n 1, 1) := by decide +kernel
theorem dX8_begin_9 : decode cX8_begin 9 = .ok (.getfield 63, 3) := by decide +kernel
theorem dX8_begin_12 : decode cX8_begin 12 = .ok (.invokevirtual 66, 3) := by decide +kernel
theorem dX8_begin_15 : decode cX8_begin 15 = .ok (.aload_n 0, 1) := by decide +kernel
theorem dX8_begin_16 : decode cX8_begin 16 = .ok (.aload_n 1, 1) := by decide +kernel
theorem dX8_begin_17 : decode cX8_begin 17 = .ok (.getfield 70, 3) := by decide +kernel
theorem dX8_begin_20 : decode cX8_begin 20 = .ok (.putfield 9, 3) := by decide +kernel
theorem dX8_begin_23 : decode cX8_begin 23 = .ok (.iconst 0, 1) := by decide +kernel
theorem dX8_begin_24 : decode cX8_begin 24 = .ok (.istore_n 2, 1) := by decide +kernel
theorem dX8_begin_25 : decode cX8_begin 25 = .ok (.iload_n 2, 1) := by decide +kernel
theorem dX8_begin_26 : decode cX8_begin 26 = .ok (.aload_n 0, 1) := by decide +kernel
theorem dX8_begin_27 : decode cX8_begin 27 = .ok (.getfield 9, 3) := by decide +kernel
theorem dX8_begin_30 : decode cX8_begin 30 = .ok (.if_icmp .ge 48, 3) := by decide +kernel
theorem dX8_begin_33 : decode cX8_begin 33 = .ok (.aload_n 0, 1) := by decide +kernel
theorem dX8_begin_34 : decode cX8_begin 34 = .ok (.getfield 47, 3) := by decide +kernel
theorem dX8_begin_37 : decode cX8_begin 37 = .ok (.iload_n 2, 1) := by decide +kernel
theorem dX8_begin_38 : decode cX8_begin 38 = .ok (.aload_n 0, 1) := by decide +kernel
theorem dX8_begin_39 : decode cX8_begin 39 = .ok (.aload_n 1, 1) := by decide +kernel
theorem dX8_begin_40 : decode cX8_begin 40 = .ok (.getfield 72, 3) := by decide +kernel
theorem dX8_begin_43 : decode cX8_begin 43 = .ok (.iload_n 2, 1) := by decide +kernel
theorem dX8_begin_44 : decode cX8_begin 44 = .ok (.iaload, 1) := by decide +kernel
theorem dX8_begin_45 : decode cX8_begin 45 = .ok (.aload_n 0, 1) := by decide +kernel
theorem dX8_begin_46 : decode cX8_begin 46 = .ok (.getfield 53, 3) := by decide +kernel
theorem dX8_begin_49 : decode cX8_begin 49 = .ok (.iload_n 2, 1) := by decide +kernel
theorem dX8_begin_50 : decode cX8_begin 50 = .ok (.aaload, 1) := by decide +kernel
theorem dX8_begin_51 : decode cX8_begin 51 = .ok (.aload_n 0, 1) := by decide +kernel
theorem dX8_begin_52 : decode cX8_begin 52 = .ok (.getfield 56, 3) := by decide +kernel
theorem dX8_begin_55 : decode cX8_begin 55 = .ok (.iload_n 2, 1) := by decide +kernel
theorem dX8_begin_56 : decode cX8_begin 56 = .ok (.aaload, 1) := by decide +kernel
theorem dX8_begin_57 : decode cX8_begin 57 = .ok (.invokevirtual 75, 3) := by decide +kernel
theorem dX8_begin_60 : decode cX8_begin 60 = .ok (.aastore, 1) := by decide +kernel
theorem dX8_begin_61 : decode cX8_begin 61 = .ok (.aload_n 0, 1) := by decide +kernel
theorem dX8_begin_62 : decode cX8_begin 62 = .ok (.iload_n 2, 1) := by decide +kernel
theorem dX8_begin_63 : decode cX8_begin 63 = .ok (.aload_n 1, 1) := by decide +kernel
theorem dX8_begin_64 : decode cX8_begin 64 = .ok (.getfield 79, 3) := by decide +kernel
theorem dX8_begin_67 : decode cX8_begin 67 = .ok (.iload_n 2, 1) := by decide +kernel
theorem dX8_begin_68 : decode cX8_begin 68 = .ok (.iaload, 1) := by decide +kernel
theorem dX8_begin_69 : decode cX8_begin 69 = .ok (.invokevirtual 82, 3) := by decide +kernel
theorem dX8_begin_72 : decode cX8_begin 72 = .ok (.iinc 2 1, 3) := by decide +kernel
theorem dX8_begin_75 : decode cX8_begin 75 = .ok (.goto (-50), 3) := by decide +kernel
theorem dX8_begin_78 : decode cX8_begin 78 = .ok (.aload_n 0, 1) := by decide +kernel
theorem dX8_begin_79 : decode cX8_begin 79 = .ok (.getfield 27, 3) := by decide +kernel
theorem dX8_begin_82 : decode cX8_begin 82 = .ok (.iconst 0, 1) := by decide +kernel
theorem dX8_begin_83 : decode cX8_begin 83 = .ok (.putfield 85, 3) := by decide +kernel
theorem dX8_begin_86 : decode cX8_begin 86 = .ok (.aload_n 0, 1) := by decide +kernel
theorem dX8_begin_87 : decode cX8_begin 87 = .ok (.invokevirtual 88, 3) := by decide +kernel
theorem dX8_begin_90 : decode cX8_begin 90 = .ok (.return_, 1) := by decide +kernel
theorem dX8_newPerson_0 : decode cX8_newPerson 0 = .ok (.iload_n 1, 1) := by decide +kernel
theorem dX8_newPerson_1 : decode cX8_newPerson 1 = .ok (.tableswitch 105 1 5 #[35, 49, 63, 77, 91], 35) := by decide +kernel
theorem dX8_newPerson_36 : decode cX8_newPerson 36 = .ok (.new 91, 3) := by decide +kernel
theorem dX8_newPerson_39 : decode cX8_newPerson 39 = .ok (.dup, 1) := by decide +kernel
theorem dX8_newPerson_40 : decode cX8_newPerson 40 = .ok (.aload_n 0, 1) := by decide +kernel
theorem dX8_newPerson_41 : decode cX8_newPerson 41 = .ok (.getfield 18, 3) := by decide +kernel
theorem dX8_newPerson_44 : decode cX8_newPerson 44 = .ok (.aload_n 2, 1) := by decide +kernel
theorem dX8_newPerson_45 : decode cX8_newPerson 45 = .ok (.aload_n 3, 1) := by decide +kernel
theorem dX8_newPerson_46 : decode cX8_newPerson 46 = .ok (.invokespecial 93, 3) := by decide +kernel
theorem dX8_newPerson_49 : decode cX8_newPerson 49 = .ok (.areturn, 1) := by decide +kernel
theorem dX8_newPerson_50 : decode cX8_newPerson 50 = .ok (.new 96, 3) := by decide +kernel
theorem dX8_newPerson_53 : decode cX8_newPerson 53 = .ok (.dup, 1) := by decide +kernel
theorem dX8_newPerson_54 : decode cX8_newPerson 54 = .ok (.aload_n 0, 1) := by decide +kernel
theorem dX8_newPerson_55 : decode cX8_newPerson 55 = .ok (.getfield 18, 3) := by decide +kernel
theorem dX8_newPerson_58 : decode cX8_newPerson 58 = .ok (.aload_n 2, 1) := by decide +kernel
theorem dX8_newPerson_59 : decode cX8_newPerson 59 = .ok (.aload_n 3, 1) := by decide +kernel
theorem dX8_newPerson_60 : decode cX8_newPerson 60 = .ok (.invokespecial 98, 3) := by decide +kernel
theorem dX8_newPerson_63 : decode cX8_newPerson 63 = .ok (.areturn, 1) := by decide +kernel
theorem dX8_newPerson_64 : decode cX8_newPerson 64 = .ok (.new 99, 3) := by decide +kernel
theorem dX8_newPerson_67 : decode cX8_newPerson 67 = .ok (.dup, 1) := by decide +kernel
theorem dX8_newPerson_68 : decode cX8_newPerson 68 = .ok (.aload_n 0, 1) := by decide +kernel
theorem dX8_newPerson_69 : decode cX8_newPerson 69 = .ok (.getfield 18, 3) := by decide +kernel
theorem dX8_newPerson_72 : decode cX8_newPerson 72 = .ok (.aload_n 2, 1) := by decide +kernel
theorem dX8_newPerson_73 : decode cX8_newPerson 73 = .ok (.aload_n 3, 1) := by decide +kernel
theorem dX8_newPerson_74 : decode cX8_newPerson 74 = .ok (.invokespecial 101, 3) := by decide +kernel
theorem dX8_newPerson_77 : decode cX8_newPerson 77 = .ok (.areturn, 1) := by decide +kernel
theorem dX8_newPerson_78 : decode cX8_newPerson 78 = .ok (.new 102, 3) := by decide +kernel
theorem dX8_newPerson_81 : decode cX8_newPerson 81 = .ok (.dup, 1) := by decide +kernel
theorem dX8_newPerson_82 : decode cX8_newPerson 82 = .ok (.aload_n 0, 1) := by decide +kernel
theorem dX8_newPerson_83 : decode cX8_newPerson 83 = .ok (.getfield 18, 3) := by decide +kernel
theorem dX8_newPerson_86 : decode cX8_newPerson 86 = .ok (.aload_n 2, 1) := by decide +kernel
theorem dX8_newPerson_87 : decode cX8_newPerson 87 = .ok (.aload_n 3, 1) := by decide +kernel
theorem dX8_newPerson_88 : decode cX8_newPerson 88 = .ok (.invokespecial 104, 3) := by decide +kernel
theorem dX8_newPerson_91 : decode cX8_newPerson 91 = .ok (.areturn, 1) := by decide +kernel
theorem dX8_newPerson_92 : decode cX8_newPerson 92 = .ok (.new 105, 3) := by decide +kernel
theorem dX8_newPerson_95 : decode cX8_newPerson 95 = .ok (.dup, 1) := by decide +kernel
theorem dX8_newPerson_96 : decode cX8_newPerson 96 = .ok (.aload_n 0, 1) := by decide +kernel
theorem dX8_newPerson_97 : decode cX8_newPerson 97 = .ok (.getfield 18, 3) := by decide +kernel
theorem dX8_newPerson_100 : decode cX8_newPerson 100 = .ok (.aload_n 2, 1) := by decide +kernel
theorem dX8_newPerson_101 : decode cX8_newPerson 101 = .ok (.aload_n 3, 1) := by decide +kernel
theorem dX8_newPerson_102 : decode cX8_newPerson 102 = .ok (.invokespecial 107, 3) := by decide +kernel
theorem dX8_newPerson_105 : decode cX8_newPerson 105 = .ok (.areturn, 1) := by decide +kernel
theorem dX8_newPerson_106 : decode cX8_newPerson 106 = .ok (.new 45, 3) := by decide +kernel
theorem dX8_newPerson_109 : decode cX8_newPerson 109 = .ok (.dup, 1) := by decide +kernel
theorem dX8_newPerson_110 : decode cX8_newPerson 110 = .ok (.aload_n 0, 1) := by decide +kernel
theorem dX8_newPerson_111 : decode cX8_newPerson 111 = .ok (.getfield 18, 3) := by decide +kernel
theorem dX8_newPerson_114 : decode cX8_newPerson 114 = .ok (.aload_n 2, 1) := by decide +kernel
theorem dX8_newPerson_115 : decode cX8_newPerson 115 = .ok (.aload_n 3, 1) := by decide +kernel
theorem dX8_newPerson_116 : decode cX8_newPerson 116 = .ok (.invokespecial 108, 3) := by decide +kernel
theorem dX8_newPerson_119 : decode cX8_newPerson 119 = .ok (.areturn, 1) := by decide +kernel
theorem dX8_personAt_0 : decode cX8_personAt 0 = .ok (.iload_n 1, 1) := by decide +kernel
theorem dX8_personAt_1 : decode cX8_personAt 1 = .ok (.ifCond .lt 11, 3) := by decide +kernel
theorem dX8_personAt_4 : decode cX8_personAt 4 = .ok (.iload_n 1, 1) := by decide +kernel
theorem dX8_personAt_5 : decode cX8_personAt 5 = .ok (.aload_n 0, 1) := by decide +kernel
theorem dX8_personAt_6 : decode cX8_personAt 6 = .ok (.getfield 9, 3) := by decide +kernel
theorem dX8_personAt_9 : decode cX8_personAt 9 = .ok (.if_icmp .lt 7, 3) := by decide +kernel
theorem dX8_personAt_12 : decode cX8_personAt 12 = .ok (.aconst_null, 1) := by decide +kernel
theorem dX8_personAt_13 : decode cX8_personAt 13 = .ok (.goto 9, 3) := by decide +kernel
theorem dX8_personAt_16 : decode cX8_personAt 16 = .ok (.aload_n 0, 1) := by decide +kernel
theorem dX8_personAt_17 : decode cX8_personAt 17 = .ok (.getfield 47, 3) := by decide +kernel
theorem dX8_personAt_20 : decode cX8_personAt 20 = .ok (.iload_n 1, 1) := by decide +kernel
theorem dX8_personAt_21 : decode cX8_personAt 21 = .ok (.aaload, 1) := by decide +kernel
theorem dX8_personAt_22 : decode cX8_personAt 22 = .ok (.areturn, 1) := by decide +kernel
theorem dX8_setFlicks_0 : decode cX8_setFlicks 0 = .ok (.aload_n 0, 1) := by decide +kernel
theorem dX8_setFlicks_1 : decode cX8_setFlicks 1 = .ok (.iload_n 1, 1) := by decide +kernel
theorem dX8_setFlicks_2 : decode cX8_setFlicks 2 = .ok (.invokevirtual 109, 3) := by decide +kernel
theorem dX8_setFlicks_5 : decode cX8_setFlicks 5 = .ok (.astore_n 3, 1) := by decide +kernel
theorem dX8_setFlicks_6 : decode cX8_setFlicks 6 = .ok (.aload_n 3, 1) := by decide +kernel
theorem dX8_setFlicks_7 : decode cX8_setFlicks 7 = .ok (.ifnull 18, 3) := by decide +kernel
theorem dX8_setFlicks_10 : decode cX8_setFlicks 10 = .ok (.aload_n 3, 1) := by decide +kernel
theorem dX8_setFlicks_11 : decode cX8_setFlicks 11 = .ok (.iload_n 2, 1) := by decide +kernel
theorem dX8_setFlicks_12 : decode cX8_setFlicks 12 = .ok (.invokevirtual 113, 3) := by decide +kernel
theorem dX8_setFlicks_15 : decode cX8_setFlicks 15 = .ok (.aload_n 0, 1) := by decide +kernel
theorem dX8_setFlicks_16 : decode cX8_setFlicks 16 = .ok (.getfield 27, 3) := by decide +kernel
theorem dX8_setFlicks_19 : decode cX8_setFlicks 19 = .ok (.getfield 116, 3) := by decide +kernel
theorem dX8_setFlicks_22 : decode cX8_setFlicks 22 = .ok (.iload_n 1, 1) := by decide +kernel
theorem dX8_setFlicks_23 : decode cX8_setFlicks 23 = .ok (.iload_n 2, 1) := by decide +kernel
theorem dX8_setFlicks_24 : decode cX8_setFlicks 24 = .ok (.iastore, 1) := by decide +kernel
theorem dX8_setFlicks_25 : decode cX8_setFlicks 25 = .ok (.return_, 1) := by decide +kernel
theorem dX8_howManyAny_0 : decode cX8_howManyAny 0 = .ok (.iconst 0, 1) := by decide +kernel
theorem dX8_howManyAny_1 : decode cX8_howManyAny 1 = .ok (.istore_n 1, 1) := by decide +kernel
theorem dX8_howManyAny_2 : decode cX8_howManyAny 2 = .ok (.iconst 0, 1) := by decide +kernel
theorem dX8_howManyAny_3 : decode cX8_howManyAny 3 = .ok (.istore_n 2, 1) := by decide +kernel
theorem dX8_howManyAny_4 : decode cX8_howManyAny 4 = .ok (.iload_n 2, 1) := by decide +kernel
theorem dX8_howManyAny_5 : decode cX8_howManyAny 5 = .ok (.aload_n 0, 1) := by decide +kernel
theorem dX8_howManyAny_6 : decode cX8_howManyAny 6 = .ok (.getfield 9, 3) := by decide +kernel
theorem dX8_howManyAny_9 : decode cX8_howManyAny 9 = .ok (.if_icmp .ge 29, 3) := by decide +kernel
theorem dX8_howManyAny_12 : decode cX8_howManyAny 12 = .ok (.iload_n 1, 1) := by decide +kernel
theorem dX8_howManyAny_13 : decode cX8_howManyAny 13 = .ok (.aload_n 0, 1) := by decide +kernel
theorem dX8_howManyAny_14 : decode cX8_howManyAny 14 = .ok (.getfield 47, 3) := by decide +kernel
theorem dX8_howManyAny_17 : decode cX8_howManyAny 17 = .ok (.iload_n 2, 1) := by decide +kernel
theorem dX8_howManyAny_18 : decode cX8_howManyAny 18 = .ok (.aaload, 1) := by decide +kernel
theorem dX8_howManyAny_19 : decode cX8_howManyAny 19 = .ok (.instanceof 96, 3) := by decide +kernel
theorem dX8_howManyAny_22 : decode cX8_howManyAny 22 = .ok (.ifCond .eq 7, 3) := by decide +kernel
theorem dX8_howManyAny_25 : decode cX8_howManyAny 25 = .ok (.iconst 1, 1) := by decide +kernel
theorem dX8_howManyAny_26 : decode cX8_howManyAny 26 = .ok (.goto 4, 3) := by decide +kernel
theorem dX8_howManyAny_29 : decode cX8_howManyAny 29 = .ok (.iconst 0, 1) := by decide +kernel
theorem dX8_howManyAny_30 : decode cX8_howManyAny 30 = .ok (.iadd, 1) := by decide +kernel
theorem dX8_howManyAny_31 : decode cX8_howManyAny 31 = .ok (.istore_n 1, 1) := by decide +kernel
theorem dX8_howManyAny_32 : decode cX8_howManyAny 32 = .ok (.iinc 2 1, 3) := by decide +kernel
theorem dX8_howManyAny_35 : decode cX8_howManyAny 35 = .ok (.goto (-31), 3) := by decide +kernel
theorem dX8_howManyAny_38 : decode cX8_howManyAny 38 = .ok (.iload_n 1, 1) := by decide +kernel
theorem dX8_howManyAny_39 : decode cX8_howManyAny 39 = .ok (.ireturn, 1) := by decide +kernel
theorem dX8_goOnFrom_0 : decode cX8_goOnFrom 0 = .ok (.aload_n 0, 1) := by decide +kernel
theorem dX8_goOnFrom_1 : decode cX8_goOnFrom 1 = .ok (.getfield 27, 3) := by decide +kernel
theorem dX8_goOnFrom_4 : decode cX8_goOnFrom 4 = .ok (.aload_n 1, 1) := by decide +kernel
theorem dX8_goOnFrom_5 : decode cX8_goOnFrom 5 = .ok (.invokevirtual 117, 3) := by decide +kernel
theorem dX8_goOnFrom_8 : decode cX8_goOnFrom 8 = .ok (.iconst 0, 1) := by decide +kernel
theorem dX8_goOnFrom_9 : decode cX8_goOnFrom 9 = .ok (.istore_n 2, 1) := by decide +kernel
theorem dX8_goOnFrom_10 : decode cX8_goOnFrom 10 = .ok (.iload_n 2, 1) := by decide +kernel
theorem dX8_goOnFrom_11 : decode cX8_goOnFrom 11 = .ok (.aload_n 0, 1) := by decide +kernel
theorem dX8_goOnFrom_12 : decode cX8_goOnFrom 12 = .ok (.getfield 9, 3) := by decide +kernel
theorem dX8_goOnFrom_15 : decode cX8_goOnFrom 15 = .ok (.if_icmp .ge 23, 3) := by decide +kernel
theorem dX8_goOnFrom_18 : decode cX8_goOnFrom 18 = .ok (.aload_n 0, 1) := by decide +kernel
theorem dX8_goOnFrom_19 : decode cX8_goOnFrom 19 = .ok (.iload_n 2, 1) := by decide +kernel
theorem dX8_goOnFrom_20 : decode cX8_goOnFrom 20 = .ok (.aload_n 0, 1) := by decide +kernel
theorem dX8_goOnFrom_21 : decode cX8_goOnFrom 21 = .ok (.getfield 27, 3) := by decide +kernel
theorem dX8_goOnFrom_24 : decode cX8_goOnFrom 24 = .ok (.getfield 116, 3) := by decide +kernel
theorem dX8_goOnFrom_27 : decode cX8_goOnFrom 27 = .ok (.iload_n 2, 1) := by decide +kernel
theorem dX8_goOnFrom_28 : decode cX8_goOnFrom 28 = .ok (.iaload, 1) := by decide +kernel
theorem dX8_goOnFrom_29 : decode cX8_goOnFrom 29 = .ok (.invokevirtual 82, 3) := by decide +kernel
theorem dX8_goOnFrom_32 : decode cX8_goOnFrom 32 = .ok (.iinc 2 1, 3) := by decide +kernel
theorem dX8_goOnFrom_35 : decode cX8_goOnFrom 35 = .ok (.goto (-25), 3) := by decide +kernel
theorem dX8_goOnFrom_38 : decode cX8_goOnFrom 38 = .ok (.aload_n 0, 1) := by decide +kernel
theorem dX8_goOnFrom_39 : decode cX8_goOnFrom 39 = .ok (.invokevirtual 88, 3) := by decide +kernel
theorem dX8_goOnFrom_42 : decode cX8_goOnFrom 42 = .ok (.return_, 1) := by decide +kernel
theorem dX8_addDeed_0 : decode cX8_addDeed 0 = .ok (.aload_n 0, 1) := by decide +kernel
theorem dX8_addDeed_1 : decode cX8_addDeed 1 = .ok (.getfield 27, 3) := by decide +kernel
theorem dX8_addDeed_4 : decode cX8_addDeed 4 = .ok (.iload_n 1, 1) := by decide +kernel
theorem dX8_addDeed_5 : decode cX8_addDeed 5 = .ok (.iload_n 2, 1) := by decide +kernel
theorem dX8_addDeed_6 : decode cX8_addDeed 6 = .ok (.invokevirtual 121, 3) := by decide +kernel
theorem dX8_addDeed_9 : decode cX8_addDeed 9 = .ok (.aload_n 0, 1) := by decide +kernel
theorem dX8_addDeed_10 : decode cX8_addDeed 10 = .ok (.iload_n 1, 1) := by decide +kernel
theorem dX8_addDeed_11 : decode cX8_addDeed 11 = .ok (.iload_n 2, 1) := by decide +kernel
theorem dX8_addDeed_12 : decode cX8_addDeed 12 = .ok (.invokevirtual 124, 3) := by decide +kernel
theorem dX8_addDeed_15 : decode cX8_addDeed 15 = .ok (.return_, 1) := by decide +kernel
theorem dX8_weighAgain_0 : decode cX8_weighAgain 0 = .ok (.aload_n 0, 1) := by decide +kernel
theorem dX8_weighAgain_1 : decode cX8_weighAgain 1 = .ok (.aload_n 0, 1) := by decide +kernel
theorem dX8_weighAgain_2 : decode cX8_weighAgain 2 = .ok (.getfield 31, 3) := by decide +kernel
theorem dX8_weighAgain_5 : decode cX8_weighAgain 5 = .ok (.lconst 1, 1) := by decide +kernel
theorem dX8_weighAgain_6 : decode cX8_weighAgain 6 = .ok (.invokevirtual 127, 3) := by decide +kernel
theorem dX8_weighAgain_9 : decode cX8_weighAgain 9 = .ok (.iconst 0, 1) := by decide +kernel
theorem dX8_weighAgain_10 : decode cX8_weighAgain 10 = .ok (.istore_n 1, 1) := by decide +kernel
theorem dX8_weighAgain_11 : decode cX8_weighAgain 11 = .ok (.iload_n 1, 1) := by decide +kernel
theorem dX8_weighAgain_12 : decode cX8_weighAgain 12 = .ok (.aload_n 0, 1) := by decide +kernel
theorem dX8_weighAgain_13 : decode cX8_weighAgain 13 = .ok (.getfield 27, 3) := by decide +kernel
theorem dX8_weighAgain_16 : decode cX8_weighAgain 16 = .ok (.getfield 85, 3) := by decide +kernel
theorem dX8_weighAgain_19 : decode cX8_weighAgain 19 = .ok (.if_icmp .ge 31, 3) := by decide +kernel
theorem dX8_weighAgain_22 : decode cX8_weighAgain 22 = .ok (.aload_n 0, 1) := by decide +kernel
theorem dX8_weighAgain_23 : decode cX8_weighAgain 23 = .ok (.aload_n 0, 1) := by decide +kernel
theorem dX8_weighAgain_24 : decode cX8_weighAgain 24 = .ok (.getfield 27, 3) := by decide +kernel
theorem dX8_weighAgain_27 : decode cX8_weighAgain 27 = .ok (.getfield 131, 3) := by decide +kernel
theorem dX8_weighAgain_30 : decode cX8_weighAgain 30 = .ok (.iload_n 1, 1) := by decide +kernel
theorem dX8_weighAgain_31 : decode cX8_weighAgain 31 = .ok (.iaload, 1) := by decide +kernel
theorem dX8_weighAgain_32 : decode cX8_weighAgain 32 = .ok (.aload_n 0, 1) := by decide +kernel
theorem dX8_weighAgain_33 : decode cX8_weighAgain 33 = .ok (.getfield 27, 3) := by decide +kernel
theorem dX8_weighAgain_36 : decode cX8_weighAgain 36 = .ok (.getfield 133, 3) := by decide +kernel
theorem dX8_weighAgain_39 : decode cX8_weighAgain 39 = .ok (.iload_n 1, 1) := by decide +kernel
theorem dX8_weighAgain_40 : decode cX8_weighAgain 40 = .ok (.iaload, 1) := by decide +kernel
theorem dX8_weighAgain_41 : decode cX8_weighAgain 41 = .ok (.invokevirtual 124, 3) := by decide +kernel
theorem dX8_weighAgain_44 : decode cX8_weighAgain 44 = .ok (.iinc 1 1, 3) := by decide +kernel
theorem dX8_weighAgain_47 : decode cX8_weighAgain 47 = .ok (.goto (-36), 3) := by decide +kernel
theorem dX8_weighAgain_50 : decode cX8_weighAgain 50 = .ok (.return_, 1) := by decide +kernel
theorem dX8_weigh_0 : decode cX8_weigh 0 = .ok (.aload_n 0, 1) := by decide +kernel
theorem dX8_weigh_1 : decode cX8_weigh 1 = .ok (.iload_n 1, 1) := by decide +kernel
theorem dX8_weigh_2 : decode cX8_weigh 2 = .ok (.invokevirtual 109, 3) := by decide +kernel
theorem dX8_weigh_5 : decode cX8_weigh 5 = .ok (.astore_n 3, 1) := by decide +kernel
theorem dX8_weigh_6 : decode cX8_weigh 6 = .ok (.aload_n 3, 1) := by decide +kernel
theorem dX8_weigh_7 : decode cX8_weigh 7 = .ok (.ifnull 16, 3) := by decide +kernel
theorem dX8_weigh_10 : decode cX8_weigh 10 = .ok (.aload_n 0, 1) := by decide +kernel
theorem dX8_weigh_11 : decode cX8_weigh 11 = .ok (.aload_n 0, 1) := by decide +kernel
theorem dX8_weigh_12 : decode cX8_weigh 12 = .ok (.getfield 31, 3) := by decide +kernel
theorem dX8_weigh_15 : decode cX8_weigh 15 = .ok (.aload_n 3, 1) := by decide +kernel
theorem dX8_weigh_16 : decode cX8_weigh 16 = .ok (.iload_n 2, 1) := by decide +kernel
theorem dX8_weigh_17 : decode cX8_weigh 17 = .ok (.invokevirtual 136, 3) := by decide +kernel
theorem dX8_weigh_20 : decode cX8_weigh 20 = .ok (.goto 21, 3) := by decide +kernel
theorem dX8_weigh_23 : decode cX8_weigh 23 = .ok (.aload_n 0, 1) := by decide +kernel
theorem dX8_weigh_24 : decode cX8_weigh 24 = .ok (.getfield 18, 3) := by decide +kernel
theorem dX8_weigh_27 : decode cX8_weigh 27 = .ok (.iload_n 2, 1) := by decide +kernel
theorem dX8_weigh_28 : decode cX8_weigh 28 = .ok (.invokevirtual 140, 3) := by decide +kernel
theorem dX8_weigh_31 : decode cX8_weigh 31 = .ok (.ifCond .eq 10, 3) := by decide +kernel
theorem dX8_weigh_34 : decode cX8_weigh 34 = .ok (.aload_n 0, 1) := by decide +kernel
theorem dX8_weigh_35 : decode cX8_weigh 35 = .ok (.getfield 31, 3) := by decide +kernel
theorem dX8_weigh_38 : decode cX8_weigh 38 = .ok (.iload_n 2, 1) := by decide +kernel
theorem dX8_weigh_39 : decode cX8_weigh 39 = .ok (.lconst 0, 1) := by decide +kernel
theorem dX8_weigh_40 : decode cX8_weigh 40 = .ok (.lastore, 1) := by decide +kernel
theorem dX8_weigh_41 : decode cX8_weigh 41 = .ok (.return_, 1) := by decide +kernel
theorem dX8_weighLook_0 : decode cX8_weighLook 0 = .ok (.iconst 0, 1) := by decide +kernel
theorem dX8_weighLook_1 : decode cX8_weighLook 1 = .ok (.istore 4, 2) := by decide +kernel
theorem dX8_weighLook_3 : decode cX8_weighLook 3 = .ok (.iload 4, 2) := by decide +kernel
theorem dX8_weighLook_5 : decode cX8_weighLook 5 = .ok (.aload_n 0, 1) := by decide +kernel
theorem dX8_weighLook_6 : decode cX8_weighLook 6 = .ok (.getfield 18, 3) := by decide +kernel
theorem dX8_weighLook_9 : decode cX8_weighLook 9 = .ok (.getfield 144, 3) := by decide +kernel
theorem dX8_weighLook_12 : decode cX8_weighLook 12 = .ok (.if_icmp .ge 40, 3) := by decide +kernel
theorem dX8_weighLook_15 : decode cX8_weighLook 15 = .ok (.aload_n 1, 1) := by decide +kernel
theorem dX8_weighLook_16 : decode cX8_weighLook 16 = .ok (.iload 4, 2) := by decide +kernel
theorem dX8_weighLook_18 : decode cX8_weighLook 18 = .ok (.laload, 1) := by decide +kernel
theorem dX8_weighLook_19 : decode cX8_weighLook 19 = .ok (.lconst 0, 1) := by decide +kernel
theorem dX8_weighLook_20 : decode cX8_weighLook 20 = .ok (.lcmp, 1) := by decide +kernel
theorem dX8_weighLook_21 : decode cX8_weighLook 21 = .ok (.ifCond .eq 25, 3) := by decide +kernel
theorem dX8_weighLook_24 : decode cX8_weighLook 24 = .ok (.aload_n 1, 1) := by decide +kernel
theorem dX8_weighLook_25 : decode cX8_weighLook 25 = .ok (.iload 4, 2) := by decide +kernel
theorem dX8_weighLook_27 : decode cX8_weighLook 27 = .ok (.dup2, 1) := by decide +kernel
theorem dX8_weighLook_28 : decode cX8_weighLook 28 = .ok (.laload, 1) := by decide +kernel
theorem dX8_weighLook_29 : decode cX8_weighLook 29 = .ok (.aload_n 2, 1) := by decide +kernel
theorem dX8_weighLook_30 : decode cX8_weighLook 30 = .ok (.aload_n 0, 1) := by decide +kernel
theorem dX8_weighLook_31 : decode cX8_weighLook 31 = .ok (.getfield 18, 3) := by decide +kernel
theorem dX8_weighLook_34 : decode cX8_weighLook 34 = .ok (.iload 4, 2) := by decide +kernel
theorem dX8_weighLook_36 : decode cX8_weighLook 36 = .ok (.iload_n 3, 1) := by decide +kernel
theorem dX8_weighLook_37 : decode cX8_weighLook 37 = .ok (.invokevirtual 146, 3) := by decide +kernel
theorem dX8_weighLook_40 : decode cX8_weighLook 40 = .ok (.invokevirtual 150, 3) := by decide +kernel
theorem dX8_weighLook_43 : decode cX8_weighLook 43 = .ok (.i2l, 1) := by decide +kernel
theorem dX8_weighLook_44 : decode cX8_weighLook 44 = .ok (.lmul, 1) := by decide +kernel
theorem dX8_weighLook_45 : decode cX8_weighLook 45 = .ok (.lastore, 1) := by decide +kernel
theorem dX8_weighLook_46 : decode cX8_weighLook 46 = .ok (.iinc 4 1, 3) := by decide +kernel
theorem dX8_weighLook_49 : decode cX8_weighLook 49 = .ok (.goto (-46), 3) := by decide +kernel
theorem dX8_weighLook_52 : decode cX8_weighLook 52 = .ok (.return_, 1) := by decide +kernel
theorem dX8_leftBehindLook_0 : decode cX8_leftBehindLook 0 = .ok (.aload_n 0, 1) := by decide +kernel
theorem dX8_leftBehindLook_1 : decode cX8_leftBehindLook 1 = .ok (.getfield 31, 3) := by decide +kernel
theorem dX8_leftBehindLook_4 : decode cX8_leftBehindLook 4 = .ok (.iconst 0, 1) := by decide +kernel
theorem dX8_leftBehindLook_5 : decode cX8_leftBehindLook 5 = .ok (.aload_n 0, 1) := by decide +kernel
theorem dX8_leftBehindLook_6 : decode cX8_leftBehindLook 6 = .ok (.getfield 35, 3) := by decide +kernel
theorem dX8_leftBehindLook_9 : decode cX8_leftBehindLook 9 = .ok (.iconst 0, 1) := by decide +kernel
theorem dX8_leftBehindLook_10 : decode cX8_leftBehindLook 10 = .ok (.aload_n 0, 1) := by decide +kernel
theorem dX8_leftBehindLook_11 : decode cX8_leftBehindLook 11 = .ok (.getfield 18, 3) := by decide +kernel
theorem dX8_leftBehindLook_14 : decode cX8_leftBehindLook 14 = .ok (.getfield 144, 3) := by decide +kernel
theorem dX8_leftBehindLook_17 : decode cX8_leftBehindLook 17 = .ok (.invokestatic 154, 3) := by decide +kernel
theorem dX8_leftBehindLook_20 : decode cX8_leftBehindLook 20 = .ok (.aload_n 0, 1) := by decide +kernel
theorem dX8_leftBehindLook_21 : decode cX8_leftBehindLook 21 = .ok (.iload_n 1, 1) := by decide +kernel
theorem dX8_leftBehindLook_22 : decode cX8_leftBehindLook 22 = .ok (.invokevirtual 109, 3) := by decide +kernel
theorem dX8_leftBehindLook_25 : decode cX8_leftBehindLook 25 = .ok (.astore_n 3, 1) := by decide +kernel
theorem dX8_leftBehindLook_26 : decode cX8_leftBehindLook 26 = .ok (.aload_n 3, 1) := by decide +kernel
theorem dX8_leftBehindLook_27 : decode cX8_leftBehindLook 27 = .ok (.ifnull 13, 3) := by decide +kernel
theorem dX8_leftBehindLook_30 : decode cX8_leftBehindLook 30 = .ok (.aload_n 0, 1) := by decide +kernel
theorem dX8_leftBehindLook_31 : decode cX8_leftBehindLook 31 = .ok (.aload_n 0, 1) := by decide +kernel
theorem dX8_leftBehindLook_32 : decode cX8_leftBehindLook 32 = .ok (.getfield 35, 3) := by decide +kernel
theorem dX8_leftBehindLook_35 : decode cX8_leftBehindLook 35 = .ok (.aload_n 3, 1) := by decide +kernel
theorem dX8_leftBehindLook_36 : decode cX8_leftBehindLook 36 = .ok (.iload_n 2, 1) := by decide +kernel
theorem dX8_leftBehindLook_37 : decode cX8_leftBehindLook 37 = .ok (.invokevirtual 136, 3) := by decide +kernel
theorem dX8_leftBehindLook_40 : decode cX8_leftBehindLook 40 = .ok (.aload_n 0, 1) := by decide +kernel
theorem dX8_leftBehindLook_41 : decode cX8_leftBehindLook 41 = .ok (.aload_n 0, 1) := by decide +kernel
theorem dX8_leftBehindLook_42 : decode cX8_leftBehindLook 42 = .ok (.getfield 35, 3) := by decide +kernel
theorem dX8_leftBehindLook_45 : decode cX8_leftBehindLook 45 = .ok (.invokevirtual 160, 3) := by decide +kernel
theorem dX8_leftBehindLook_48 : decode cX8_leftBehindLook 48 = .ok (.ireturn, 1) := by decide +kernel
theorem dX8_leftBehindTry_0 : decode cX8_leftBehindTry 0 = .ok (.aload_n 0, 1) := by decide +kernel
theorem dX8_leftBehindTry_1 : decode cX8_leftBehindTry 1 = .ok (.getfield 18, 3) := by decide +kernel
theorem dX8_leftBehindTry_4 : decode cX8_leftBehindTry 4 = .ok (.iload_n 1, 1) := by decide +kernel
theorem dX8_leftBehindTry_5 : decode cX8_leftBehindTry 5 = .ok (.invokevirtual 140, 3) := by decide +kernel
theorem dX8_leftBehindTry_8 : decode cX8_leftBehindTry 8 = .ok (.ifCond .eq 18, 3) := by decide +kernel
theorem dX8_leftBehindTry_11 : decode cX8_leftBehindTry 11 = .ok (.aload_n 0, 1) := by decide +kernel
theorem dX8_leftBehindTry_12 : decode cX8_leftBehindTry 12 = .ok (.getfield 31, 3) := by decide +kernel
theorem dX8_leftBehindTry_15 : decode cX8_leftBehindTry 15 = .ok (.iload_n 1, 1) := by decide +kernel
theorem dX8_leftBehindTry_16 : decode cX8_leftBehindTry 16 = .ok (.laload, 1) := by decide +kernel
theorem dX8_leftBehindTry_17 : decode cX8_leftBehindTry 17 = .ok (.lconst 0, 1) := by decide +kernel
theorem dX8_leftBehindTry_18 : decode cX8_leftBehindTry 18 = .ok (.lcmp, 1) := by decide +kernel
theorem dX8_leftBehindTry_19 : decode cX8_leftBehindTry 19 = .ok (.ifCond .le 7, 3) := by decide +kernel
theorem dX8_leftBehindTry_22 : decode cX8_leftBehindTry 22 = .ok (.iconst 1, 1) := by decide +kernel
theorem dX8_leftBehindTry_23 : decode cX8_leftBehindTry 23 = .ok (.goto 4, 3) := by decide +kernel
theorem dX8_leftBehindTry_26 : decode cX8_leftBehindTry 26 = .ok (.iconst 0, 1) := by decide +kernel
theorem dX8_leftBehindTry_27 : decode cX8_leftBehindTry 27 = .ok (.istore_n 2, 1) := by decide +kernel
theorem dX8_leftBehindTry_28 : decode cX8_leftBehindTry 28 = .ok (.aload_n 0, 1) := by decide +kernel
theorem dX8_leftBehindTry_29 : decode cX8_leftBehindTry 29 = .ok (.invokevirtual 164, 3) := by decide +kernel
theorem dX8_leftBehindTry_32 : decode cX8_leftBehindTry 32 = .ok (.iload_n 2, 1) := by decide +kernel
theorem dX8_leftBehindTry_33 : decode cX8_leftBehindTry 33 = .ok (.isub, 1) := by decide +kernel
theorem dX8_leftBehindTry_34 : decode cX8_leftBehindTry 34 = .ok (.ireturn, 1) := by decide +kernel
theorem dX8_setAll_0 : decode cX8_setAll 0 = .ok (.iconst 0, 1) := by decide +kernel
theorem dX8_setAll_1 : decode cX8_setAll 1 = .ok (.istore 4, 2) := by decide +kernel
theorem dX8_setAll_3 : decode cX8_setAll 3 = .ok (.iload 4, 2) := by decide +kernel
theorem dX8_setAll_5 : decode cX8_setAll 5 = .ok (.aload_n 0, 1) := by decide +kernel
theorem dX8_setAll_6 : decode cX8_setAll 6 = .ok (.getfield 18, 3) := by decide +kernel
theorem dX8_setAll_9 : decode cX8_setAll 9 = .ok (.getfield 144, 3) := by decide +kernel
theorem dX8_setAll_12 : decode cX8_setAll 12 = .ok (.if_icmp .ge 14, 3) := by decide +kernel
theorem dX8_setAll_15 : decode cX8_setAll 15 = .ok (.aload_n 1, 1) := by decide +kernel
theorem dX8_setAll_16 : decode cX8_setAll 16 = .ok (.iload 4, 2) := by decide +kernel
theorem dX8_setAll_18 : decode cX8_setAll 18 = .ok (.lload_n 2, 1) := by decide +kernel
theorem dX8_setAll_19 : decode cX8_setAll 19 = .ok (.lastore, 1) := by decide +kernel
theorem dX8_setAll_20 : decode cX8_setAll 20 = .ok (.iinc 4 1, 3) := by decide +kernel
theorem dX8_setAll_23 : decode cX8_setAll 23 = .ok (.goto (-20), 3) := by decide +kernel
theorem dX8_setAll_26 : decode cX8_setAll 26 = .ok (.return_, 1) := by decide +kernel
theorem dX8_sumOf_0 : decode cX8_sumOf 0 = .ok (.lconst 0, 1) := by decide +kernel
theorem dX8_sumOf_1 : decode cX8_sumOf 1 = .ok (.lstore_n 2, 1) := by decide +kernel
theorem dX8_sumOf_2 : decode cX8_sumOf 2 = .ok (.iconst 0, 1) := by decide +kernel
theorem dX8_sumOf_3 : decode cX8_sumOf 3 = .ok (.istore 4, 2) := by decide +kernel
theorem dX8_sumOf_5 : decode cX8_sumOf 5 = .ok (.iload 4, 2) := by decide +kernel
theorem dX8_sumOf_7 : decode cX8_sumOf 7 = .ok (.aload_n 0, 1) := by decide +kernel
theorem dX8_sumOf_8 : decode cX8_sumOf 8 = .ok (.getfield 18, 3) := by decide +kernel
theorem dX8_sumOf_11 : decode cX8_sumOf 11 = .ok (.getfield 144, 3) := by decide +kernel
theorem dX8_sumOf_14 : decode cX8_sumOf 14 = .ok (.if_icmp .ge 16, 3) := by decide +kernel
theorem dX8_sumOf_17 : decode cX8_sumOf 17 = .ok (.lload_n 2, 1) := by decide +kernel
theorem dX8_sumOf_18 : decode cX8_sumOf 18 = .ok (.aload_n 1, 1) := by decide +kernel
theorem dX8_sumOf_19 : decode cX8_sumOf 19 = .ok (.iload 4, 2) := by decide +kernel
theorem dX8_sumOf_21 : decode cX8_sumOf 21 = .ok (.laload, 1) := by decide +kernel
theorem dX8_sumOf_22 : decode cX8_sumOf 22 = .ok (.ladd, 1) := by decide +kernel
theorem dX8_sumOf_23 : decode cX8_sumOf 23 = .ok (.lstore_n 2, 1) := by decide +kernel
theorem dX8_sumOf_24 : decode cX8_sumOf 24 = .ok (.iinc 4 1, 3) := by decide +kernel
theorem dX8_sumOf_27 : decode cX8_sumOf 27 = .ok (.goto (-22), 3) := by decide +kernel
theorem dX8_sumOf_30 : decode cX8_sumOf 30 = .ok (.lload_n 2, 1) := by decide +kernel
theorem dX8_sumOf_31 : decode cX8_sumOf 31 = .ok (.lreturn, 1) := by decide +kernel
theorem dX8_howManyAbove_0 : decode cX8_howManyAbove 0 = .ok (.iconst 0, 1) := by decide +kernel
theorem dX8_howManyAbove_1 : decode cX8_howManyAbove 1 = .ok (.istore_n 2, 1) := by decide +kernel
theorem dX8_howManyAbove_2 : decode cX8_howManyAbove 2 = .ok (.iconst 0, 1) := by decide +kernel
theorem dX8_howManyAbove_3 : decode cX8_howManyAbove 3 = .ok (.istore_n 3, 1) := by decide +kernel
theorem dX8_howManyAbove_4 : decode cX8_howManyAbove 4 = .ok (.iload_n 3, 1) := by decide +kernel
theorem dX8_howManyAbove_5 : decode cX8_howManyAbove 5 = .ok (.aload_n 0, 1) := by decide +kernel
theorem dX8_howManyAbove_6 : decode cX8_howManyAbove 6 = .ok (.getfield 18, 3) := by decide +kernel
theorem dX8_howManyAbove_9 : decode cX8_howManyAbove 9 = .ok (.getfield 144, 3) := by decide +kernel
theorem dX8_howManyAbove_12 : decode cX8_howManyAbove 12 = .ok (.if_icmp .ge 25, 3) := by decide +kernel
theorem dX8_howManyAbove_15 : decode cX8_howManyAbove 15 = .ok (.iload_n 2, 1) := by decide +kernel
theorem dX8_howManyAbove_16 : decode cX8_howManyAbove 16 = .ok (.aload_n 1, 1) := by decide +kernel
theorem dX8_howManyAbove_17 : decode cX8_howManyAbove 17 = .ok (.iload_n 3, 1) := by decide +kernel
theorem dX8_howManyAbove_18 : decode cX8_howManyAbove 18 = .ok (.laload, 1) := by decide +kernel
theorem dX8_howManyAbove_19 : decode cX8_howManyAbove 19 = .ok (.lconst 0, 1) := by decide +kernel
theorem dX8_howManyAbove_20 : decode cX8_howManyAbove 20 = .ok (.lcmp, 1) := by decide +kernel
theorem dX8_howManyAbove_21 : decode cX8_howManyAbove 21 = .ok (.ifCond .le 7, 3) := by decide +kernel
theorem dX8_howManyAbove_24 : decode cX8_howManyAbove 24 = .ok (.iconst 1, 1) := by decide +kernel
theorem dX8_howManyAbove_25 : decode cX8_howManyAbove 25 = .ok (.goto 4, 3) := by decide +kernel
theorem dX8_howManyAbove_28 : decode cX8_howManyAbove 28 = .ok (.iconst 0, 1) := by decide +kernel
theorem dX8_howManyAbove_29 : decode cX8_howManyAbove 29 = .ok (.iadd, 1) := by decide +kernel
theorem dX8_howManyAbove_30 : decode cX8_howManyAbove 30 = .ok (.istore_n 2, 1) := by decide +kernel
theorem dX8_howManyAbove_31 : decode cX8_howManyAbove 31 = .ok (.iinc 3 1, 3) := by decide +kernel
theorem dX8_howManyAbove_34 : decode cX8_howManyAbove 34 = .ok (.goto (-30), 3) := by decide +kernel
theorem dX8_howManyAbove_37 : decode cX8_howManyAbove 37 = .ok (.iload_n 2, 1) := by decide +kernel
theorem dX8_howManyAbove_38 : decode cX8_howManyAbove 38 = .ok (.ireturn, 1) := by decide +kernel
theorem dX8_howManyAre_0 : decode cX8_howManyAre 0 = .ok (.iconst 0, 1) := by decide +kernel
theorem dX8_howManyAre_1 : decode cX8_howManyAre 1 = .ok (.istore 4, 2) := by decide +kernel
theorem dX8_howManyAre_3 : decode cX8_howManyAre 3 = .ok (.iconst 0, 1) := by decide +kernel
theorem dX8_howManyAre_4 : decode cX8_howManyAre 4 = .ok (.istore 5, 2) := by decide +kernel
theorem dX8_howManyAre_6 : decode cX8_howManyAre 6 = .ok (.iload 5, 2) := by decide +kernel
theorem dX8_howManyAre_8 : decode cX8_howManyAre 8 = .ok (.aload_n 0, 1) := by decide +kernel
theorem dX8_howManyAre_9 : decode cX8_howManyAre 9 = .ok (.getfield 18, 3) := by decide +kernel
theorem dX8_howManyAre_12 : decode cX8_howManyAre 12 = .ok (.getfield 144, 3) := by decide +kernel
theorem dX8_howManyAre_15 : decode cX8_howManyAre 15 = .ok (.if_icmp .ge 28, 3) := by decide +kernel
theorem dX8_howManyAre_18 : decode cX8_howManyAre 18 = .ok (.iload 4, 2) := by decide +kernel
theorem dX8_howManyAre_20 : decode cX8_howManyAre 20 = .ok (.aload_n 1, 1) := by decide +kernel
theorem dX8_howManyAre_21 : decode cX8_howManyAre 21 = .ok (.iload 5, 2) := by decide +kernel
theorem dX8_howManyAre_23 : decode cX8_howManyAre 23 = .ok (.laload, 1) := by decide +kernel
theorem dX8_howManyAre_24 : decode cX8_howManyAre 24 = .ok (.lload_n 2, 1) := by decide +kernel
theorem dX8_howManyAre_25 : decode cX8_howManyAre 25 = .ok (.lcmp, 1) := by decide +kernel
theorem dX8_howManyAre_26 : decode cX8_howManyAre 26 = .ok (.ifCond .ne 7, 3) := by decide +kernel
theorem dX8_howManyAre_29 : decode cX8_howManyAre 29 = .ok (.iconst 1, 1) := by decide +kernel
theorem dX8_howManyAre_30 : decode cX8_howManyAre 30 = .ok (.goto 4, 3) := by decide +kernel
theorem dX8_howManyAre_33 : decode cX8_howManyAre 33 = .ok (.iconst 0, 1) := by decide +kernel
theorem dX8_howManyAre_34 : decode cX8_howManyAre 34 = .ok (.iadd, 1) := by decide +kernel
theorem dX8_howManyAre_35 : decode cX8_howManyAre 35 = .ok (.istore 4, 2) := by decide +kernel
theorem dX8_howManyAre_37 : decode cX8_howManyAre 37 = .ok (.iinc 5 1, 3) := by decide +kernel
theorem dX8_howManyAre_40 : decode cX8_howManyAre 40 = .ok (.goto (-34), 3) := by decide +kernel
theorem dX8_howManyAre_43 : decode cX8_howManyAre 43 = .ok (.iload 4, 2) := by decide +kernel
theorem dX8_howManyAre_45 : decode cX8_howManyAre 45 = .ok (.ireturn, 1) := by decide +kernel
theorem dX8_firstAbove_0 : decode cX8_firstAbove 0 = .ok (.iconst 0, 1) := by decide +kernel
theorem dX8_firstAbove_1 : decode cX8_firstAbove 1 = .ok (.istore_n 2, 1) := by decide +kernel
theorem dX8_firstAbove_2 : decode cX8_firstAbove 2 = .ok (.iload_n 2, 1) := by decide +kernel
theorem dX8_firstAbove_3 : decode cX8_firstAbove 3 = .ok (.iconst 1, 1) := by decide +kernel
theorem dX8_firstAbove_4 : decode cX8_firstAbove 4 = .ok (.iadd, 1) := by decide +kernel
theorem dX8_firstAbove_5 : decode cX8_firstAbove 5 = .ok (.aload_n 0, 1) := by decide +kernel
theorem dX8_firstAbove_6 : decode cX8_firstAbove 6 = .ok (.getfield 18, 3) := by decide +kernel
theorem dX8_firstAbove_9 : decode cX8_firstAbove 9 = .ok (.getfield 144, 3) := by decide +kernel
theorem dX8_firstAbove_12 : decode cX8_firstAbove 12 = .ok (.if_icmp .ge 17, 3) := by decide +kernel
theorem dX8_firstAbove_15 : decode cX8_firstAbove 15 = .ok (.aload_n 1, 1) := by decide +kernel
theorem dX8_firstAbove_16 : decode cX8_firstAbove 16 = .ok (.iload_n 2, 1) := by decide +kernel
theorem dX8_firstAbove_17 : decode cX8_firstAbove 17 = .ok (.laload, 1) := by decide +kernel
theorem dX8_firstAbove_18 : decode cX8_firstAbove 18 = .ok (.lconst 0, 1) := by decide +kernel
theorem dX8_firstAbove_19 : decode cX8_firstAbove 19 = .ok (.lcmp, 1) := by decide +kernel
theorem dX8_firstAbove_20 : decode cX8_firstAbove 20 = .ok (.ifCond .ne 9, 3) := by decide +kernel
theorem dX8_firstAbove_23 : decode cX8_firstAbove 23 = .ok (.iinc 2 1, 3) := by decide +kernel
theorem dX8_firstAbove_26 : decode cX8_firstAbove 26 = .ok (.goto (-24), 3) := by decide +kernel
theorem dX8_firstAbove_29 : decode cX8_firstAbove 29 = .ok (.iload_n 2, 1) := by decide +kernel
theorem dX8_firstAbove_30 : decode cX8_firstAbove 30 = .ok (.ireturn, 1) := by decide +kernel
theorem dX8_likeliest_0 : decode cX8_likeliest 0 = .ok (.iconst 0, 1) := by decide +kernel
theorem dX8_likeliest_1 : decode cX8_likeliest 1 = .ok (.istore_n 2, 1) := by decide +kernel
theorem dX8_likeliest_2 : decode cX8_likeliest 2 = .ok (.iconst 1, 1) := by decide +kernel
theorem dX8_likeliest_3 : decode cX8_likeliest 3 = .ok (.istore_n 3, 1) := by decide +kernel
theorem dX8_likeliest_4 : decode cX8_likeliest 4 = .ok (.iload_n 3, 1) := by decide +kernel
theorem dX8_likeliest_5 : decode cX8_likeliest 5 = .ok (.aload_n 0, 1) := by decide +kernel
theorem dX8_likeliest_6 : decode cX8_likeliest 6 = .ok (.getfield 18, 3) := by decide +kernel
theorem dX8_likeliest_9 : decode cX8_likeliest 9 = .ok (.getfield 144, 3) := by decide +kernel
theorem dX8_likeliest_12 : decode cX8_likeliest 12 = .ok (.if_icmp .ge 25, 3) := by decide +kernel
theorem dX8_likeliest_15 : decode cX8_likeliest 15 = .ok (.aload_n 1, 1) := by decide +kernel
theorem dX8_likeliest_16 : decode cX8_likeliest 16 = .ok (.iload_n 3, 1) := by decide +kernel
theorem dX8_likeliest_17 : decode cX8_likeliest 17 = .ok (.laload, 1) := by decide +kernel
theorem dX8_likeliest_18 : decode cX8_likeliest 18 = .ok (.aload_n 1, 1) := by decide +kernel
theorem dX8_likeliest_19 : decode cX8_likeliest 19 = .ok (.iload_n 2, 1) := by decide +kernel
theorem dX8_likeliest_20 : decode cX8_likeliest 20 = .ok (.laload, 1) := by decide +kernel
theorem dX8_likeliest_21 : decode cX8_likeliest 21 = .ok (.lcmp, 1) := by decide +kernel
theorem dX8_likeliest_22 : decode cX8_likeliest 22 = .ok (.ifCond .le 7, 3) := by decide +kernel
theorem dX8_likeliest_25 : decode cX8_likeliest 25 = .ok (.iload_n 3, 1) := by decide +kernel
theorem dX8_likeliest_26 : decode cX8_likeliest 26 = .ok (.goto 4, 3) := by decide +kernel
theorem dX8_likeliest_29 : decode cX8_likeliest 29 = .ok (.iload_n 2, 1) := by decide +kernel
theorem dX8_likeliest_30 : decode cX8_likeliest 30 = .ok (.istore_n 2, 1) := by decide +kernel
theorem dX8_likeliest_31 : decode cX8_likeliest 31 = .ok (.iinc 3 1, 3) := by decide +kernel
theorem dX8_likeliest_34 : decode cX8_likeliest 34 = .ok (.goto (-30), 3) := by decide +kernel
theorem dX8_likeliest_37 : decode cX8_likeliest 37 = .ok (.iload_n 2, 1) := by decide +kernel
theorem dX8_likeliest_38 : decode cX8_likeliest 38 = .ok (.ireturn, 1) := by decide +kernel
theorem dX8_howManyCanBe_0 : decode cX8_howManyCanBe 0 = .ok (.aload_n 0, 1) := by decide +kernel
theorem dX8_howManyCanBe_1 : decode cX8_howManyCanBe 1 = .ok (.aload_n 0, 1) := by decide +kernel
theorem dX8_howManyCanBe_2 : decode cX8_howManyCanBe 2 = .ok (.getfield 31, 3) := by decide +kernel
theorem dX8_howManyCanBe_5 : decode cX8_howManyCanBe 5 = .ok (.invokevirtual 160, 3) := by decide +kernel
theorem dX8_howManyCanBe_8 : decode cX8_howManyCanBe 8 = .ok (.ireturn, 1) := by decide +kernel
theorem dX8_weightAt_0 : decode cX8_weightAt 0 = .ok (.lconst 0, 1) := by decide +kernel
theorem dX8_weightAt_1 : decode cX8_weightAt 1 = .ok (.lstore_n 3, 1) := by decide +kernel
theorem dX8_weightAt_2 : decode cX8_weightAt 2 = .ok (.iconst 0, 1) := by decide +kernel
theorem dX8_weightAt_3 : decode cX8_weightAt 3 = .ok (.istore 5, 2) := by decide +kernel
theorem dX8_weightAt_5 : decode cX8_weightAt 5 = .ok (.iload 5, 2) := by decide +kernel
theorem dX8_weightAt_7 : decode cX8_weightAt 7 = .ok (.aload_n 0, 1) := by decide +kernel
theorem dX8_weightAt_8 : decode cX8_weightAt 8 = .ok (.getfield 18, 3) := by decide +kernel
theorem dX8_weightAt_11 : decode cX8_weightAt 11 = .ok (.getfield 144, 3) := by decide +kernel
theorem dX8_weightAt_14 : decode cX8_weightAt 14 = .ok (.if_icmp .ge 37, 3) := by decide +kernel
theorem dX8_weightAt_17 : decode cX8_weightAt 17 = .ok (.lload_n 3, 1) := by decide +kernel
theorem dX8_weightAt_18 : decode cX8_weightAt 18 = .ok (.aload_n 0, 1) := by decide +kernel
theorem dX8_weightAt_19 : decode cX8_weightAt 19 = .ok (.getfield 18, 3) := by decide +kernel
theorem dX8_weightAt_22 : decode cX8_weightAt 22 = .ok (.iload 5, 2) := by decide +kernel
theorem dX8_weightAt_24 : decode cX8_weightAt 24 = .ok (.iload_n 1, 1) := by decide +kernel
theorem dX8_weightAt_25 : decode cX8_weightAt 25 = .ok (.invokevirtual 168, 3) := by decide +kernel
theorem dX8_weightAt_28 : decode cX8_weightAt 28 = .ok (.iload_n 2, 1) := by decide +kernel
theorem dX8_weightAt_29 : decode cX8_weightAt 29 = .ok (.if_icmp .ne 13, 3) := by decide +kernel
theorem dX8_weightAt_32 : decode cX8_weightAt 32 = .ok (.aload_n 0, 1) := by decide +kernel
theorem dX8_weightAt_33 : decode cX8_weightAt 33 = .ok (.getfield 31, 3) := by decide +kernel
theorem dX8_weightAt_36 : decode cX8_weightAt 36 = .ok (.iload 5, 2) := by decide +kernel
theorem dX8_weightAt_38 : decode cX8_weightAt 38 = .ok (.laload, 1) := by decide +kernel
theorem dX8_weightAt_39 : decode cX8_weightAt 39 = .ok (.goto 4, 3) := by decide +kernel
theorem dX8_weightAt_42 : decode cX8_weightAt 42 = .ok (.lconst 0, 1) := by decide +kernel
theorem dX8_weightAt_43 : decode cX8_weightAt 43 = .ok (.ladd, 1) := by decide +kernel
theorem dX8_weightAt_44 : decode cX8_weightAt 44 = .ok (.lstore_n 3, 1) := by decide +kernel
theorem dX8_weightAt_45 : decode cX8_weightAt 45 = .ok (.iinc 5 1, 3) := by decide +kernel
theorem dX8_weightAt_48 : decode cX8_weightAt 48 = .ok (.goto (-43), 3) := by decide +kernel
theorem dX8_weightAt_51 : decode cX8_weightAt 51 = .ok (.lload_n 3, 1) := by decide +kernel
theorem dX8_weightAt_52 : decode cX8_weightAt 52 = .ok (.lreturn, 1) := by decide +kernel
theorem dX8_certainNotch_0 : decode cX8_certainNotch 0 = .ok (.aload_n 0, 1) := by decide +kernel
theorem dX8_certainNotch_1 : decode cX8_certainNotch 1 = .ok (.getfield 18, 3) := by decide +kernel
theorem dX8_certainNotch_4 : decode cX8_certainNotch 4 = .ok (.aload_n 0, 1) := by decide +kernel
theorem dX8_certainNotch_5 : decode cX8_certainNotch 5 = .ok (.aload_n 0, 1) := by decide +kernel
theorem dX8_certainNotch_6 : decode cX8_certainNotch 6 = .ok (.getfield 31, 3) := by decide +kernel
theorem dX8_certainNotch_9 : decode cX8_certainNotch 9 = .ok (.invokevirtual 171, 3) := by decide +kernel
theorem dX8_certainNotch_12 : decode cX8_certainNotch 12 = .ok (.iload_n 1, 1) := by decide +kernel
theorem dX8_certainNotch_13 : decode cX8_certainNotch 13 = .ok (.invokevirtual 168, 3) := by decide +kernel
theorem dX8_certainNotch_16 : decode cX8_certainNotch 16 = .ok (.istore_n 2, 1) := by decide +kernel
theorem dX8_certainNotch_17 : decode cX8_certainNotch 17 = .ok (.aload_n 0, 1) := by decide +kernel
theorem dX8_certainNotch_18 : decode cX8_certainNotch 18 = .ok (.iload_n 1, 1) := by decide +kernel
theorem dX8_certainNotch_19 : decode cX8_certainNotch 19 = .ok (.iload_n 2, 1) := by decide +kernel
theorem dX8_certainNotch_20 : decode cX8_certainNotch 20 = .ok (.invokevirtual 174, 3) := by decide +kernel
theorem dX8_certainNotch_23 : decode cX8_certainNotch 23 = .ok (.aload_n 0, 1) := by decide +kernel
theorem dX8_certainNotch_24 : decode cX8_certainNotch 24 = .ok (.aload_n 0, 1) := by decide +kernel
theorem dX8_certainNotch_25 : decode cX8_certainNotch 25 = .ok (.getfield 31, 3) := by decide +kernel
theorem dX8_certainNotch_28 : decode cX8_certainNotch 28 = .ok (.invokevirtual 178, 3) := by decide +kernel
theorem dX8_certainNotch_31 : decode cX8_certainNotch 31 = .ok (.lcmp, 1) := by decide +kernel
theorem dX8_certainNotch_32 : decode cX8_certainNotch 32 = .ok (.ifCond .ne 7, 3) := by decide +kernel
theorem dX8_certainNotch_35 : decode cX8_certainNotch 35 = .ok (.iload_n 2, 1) := by decide +kernel
theorem dX8_certainNotch_36 : decode cX8_certainNotch 36 = .ok (.goto 5, 3) := by decide +kernel
theorem dX8_certainNotch_39 : decode cX8_certainNotch 39 = .ok (.bipush (-9), 2) := by decide +kernel
theorem dX8_certainNotch_41 : decode cX8_certainNotch 41 = .ok (.ireturn, 1) := by decide +kernel
theorem dX8_sortCodes_0 : decode cX8_sortCodes 0 = .ok (.iconst 0, 1) := by decide +kernel
theorem dX8_sortCodes_1 : decode cX8_sortCodes 1 = .ok (.istore_n 1, 1) := by decide +kernel
theorem dX8_sortCodes_2 : decode cX8_sortCodes 2 = .ok (.iconst 0, 1) := by decide +kernel
theorem dX8_sortCodes_3 : decode cX8_sortCodes 3 = .ok (.istore_n 2, 1) := by decide +kernel
theorem dX8_sortCodes_4 : decode cX8_sortCodes 4 = .ok (.iload_n 2, 1) := by decide +kernel
theorem dX8_sortCodes_5 : decode cX8_sortCodes 5 = .ok (.aload_n 0, 1) := by decide +kernel
theorem dX8_sortCodes_6 : decode cX8_sortCodes 6 = .ok (.getfield 18, 3) := by decide +kernel
theorem dX8_sortCodes_9 : decode cX8_sortCodes 9 = .ok (.getfield 144, 3) := by decide +kernel
theorem dX8_sortCodes_12 : decode cX8_sortCodes 12 = .ok (.if_icmp .ge 79, 3) := by decide +kernel
theorem dX8_sortCodes_15 : decode cX8_sortCodes 15 = .ok (.aload_n 0, 1) := by decide +kernel
theorem dX8_sortCodes_16 : decode cX8_sortCodes 16 = .ok (.getfield 31, 3) := by decide +kernel
theorem dX8_sortCodes_19 : decode cX8_sortCodes 19 = .ok (.iload_n 2, 1) := by decide +kernel
theorem dX8_sortCodes_20 : decode cX8_sortCodes 20 = .ok (.laload, 1) := by decide +kernel
theorem dX8_sortCodes_21 : decode cX8_sortCodes 21 = .ok (.lconst 0, 1) := by decide +kernel
theorem dX8_sortCodes_22 : decode cX8_sortCodes 22 = .ok (.lcmp, 1) := by decide +kernel
theorem dX8_sortCodes_23 : decode cX8_sortCodes 23 = .ok (.ifCond .le 62, 3) := by decide +kernel
theorem dX8_sortCodes_26 : decode cX8_sortCodes 26 = .ok (.iload_n 1, 1) := by decide +kernel
theorem dX8_sortCodes_27 : decode cX8_sortCodes 27 = .ok (.istore_n 3, 1) := by decide +kernel
theorem dX8_sortCodes_28 : decode cX8_sortCodes 28 = .ok (.iload_n 3, 1) := by decide +kernel
theorem dX8_sortCodes_29 : decode cX8_sortCodes 29 = .ok (.ifCond .le 46, 3) := by decide +kernel
theorem dX8_sortCodes_32 : decode cX8_sortCodes 32 = .ok (.aload_n 0, 1) := by decide +kernel
theorem dX8_sortCodes_33 : decode cX8_sortCodes 33 = .ok (.getfield 31, 3) := by decide +kernel
theorem dX8_sortCodes_36 : decode cX8_sortCodes 36 = .ok (.aload_n 0, 1) := by decide +kernel
theorem dX8_sortCodes_37 : decode cX8_sortCodes 37 = .ok (.getfield 38, 3) := by decide +kernel
theorem dX8_sortCodes_40 : decode cX8_sortCodes 40 = .ok (.iload_n 3, 1) := by decide +kernel
theorem dX8_sortCodes_41 : decode cX8_sortCodes 41 = .ok (.iconst 1, 1) := by decide +kernel
theorem dX8_sortCodes_42 : decode cX8_sortCodes 42 = .ok (.isub, 1) := by decide +kernel
theorem dX8_sortCodes_43 : decode cX8_sortCodes 43 = .ok (.iaload, 1) := by decide +kernel
theorem dX8_sortCodes_44 : decode cX8_sortCodes 44 = .ok (.laload, 1) := by decide +kernel
theorem dX8_sortCodes_45 : decode cX8_sortCodes 45 = .ok (.aload_n 0, 1) := by decide +kernel
theorem dX8_sortCodes_46 : decode cX8_sortCodes 46 = .ok (.getfield 31, 3) := by decide +kernel
theorem dX8_sortCodes_49 : decode cX8_sortCodes 49 = .ok (.iload_n 2, 1) := by decide +kernel
theorem dX8_sortCodes_50 : decode cX8_sortCodes 50 = .ok (.laload, 1) := by decide +kernel
theorem dX8_sortCodes_51 : decode cX8_sortCodes 51 = .ok (.lcmp, 1) := by decide +kernel
theorem dX8_sortCodes_52 : decode cX8_sortCodes 52 = .ok (.ifCond .ge 23, 3) := by decide +kernel
theorem dX8_sortCodes_55 : decode cX8_sortCodes 55 = .ok (.aload_n 0, 1) := by decide +kernel
theorem dX8_sortCodes_56 : decode cX8_sortCodes 56 = .ok (.getfield 38, 3) := by decide +kernel
theorem dX8_sortCodes_59 : decode cX8_sortCodes 59 = .ok (.iload_n 3, 1) := by decide +kernel
theorem dX8_sortCodes_60 : decode cX8_sortCodes 60 = .ok (.aload_n 0, 1) := by decide +kernel
theorem dX8_sortCodes_61 : decode cX8_sortCodes 61 = .ok (.getfield 38, 3) := by decide +kernel
theorem dX8_sortCodes_64 : decode cX8_sortCodes 64 = .ok (.iload_n 3, 1) := by decide +kernel
theorem dX8_sortCodes_65 : decode cX8_sortCodes 65 = .ok (.iconst 1, 1) := by decide +kernel
theorem dX8_sortCodes_66 : decode cX8_sortCodes 66 = .ok (.isub, 1) := by decide +kernel
theorem dX8_sortCodes_67 : decode cX8_sortCodes 67 = .ok (.iaload, 1) := by decide +kernel
theorem dX8_sortCodes_68 : decode cX8_sortCodes 68 = .ok (.iastore, 1) := by decide +kernel
theorem dX8_sortCodes_69 : decode cX8_sortCodes 69 = .ok (.iinc 3 (-1), 3) := by decide +kernel
theorem dX8_sortCodes_72 : decode cX8_sortCodes 72 = .ok (.goto (-44), 3) := by decide +kernel
theorem dX8_sortCodes_75 : decode cX8_sortCodes 75 = .ok (.aload_n 0, 1) := by decide +kernel
theorem dX8_sortCodes_76 : decode cX8_sortCodes 76 = .ok (.getfield 38, 3) := by decide +kernel
theorem dX8_sortCodes_79 : decode cX8_sortCodes 79 = .ok (.iload_n 3, 1) := by decide +kernel
theorem dX8_sortCodes_80 : decode cX8_sortCodes 80 = .ok (.iload_n 2, 1) := by decide +kernel
theorem dX8_sortCodes_81 : decode cX8_sortCodes 81 = .ok (.iastore, 1) := by decide +kernel
theorem dX8_sortCodes_82 : decode cX8_sortCodes 82 = .ok (.iinc 1 1, 3) := by decide +kernel
theorem dX8_sortCodes_85 : decode cX8_sortCodes 85 = .ok (.iinc 2 1, 3) := by decide +kernel
theorem dX8_sortCodes_88 : decode cX8_sortCodes 88 = .ok (.goto (-84), 3) := by decide +kernel
theorem dX8_sortCodes_91 : decode cX8_sortCodes 91 = .ok (.iload_n 1, 1) := by decide +kernel
theorem dX8_sortCodes_92 : decode cX8_sortCodes 92 = .ok (.ireturn, 1) := by decide +kernel
theorem dX8_triesInAll_0 : decode cX8_triesInAll 0 = .ok (.aload_n 0, 1) := by decide +kernel
theorem dX8_triesInAll_1 : decode cX8_triesInAll 1 = .ok (.invokevirtual 182, 3) := by decide +kernel
theorem dX8_triesInAll_4 : decode cX8_triesInAll 4 = .ok (.istore_n 1, 1) := by decide +kernel
theorem dX8_triesInAll_5 : decode cX8_triesInAll 5 = .ok (.lconst 0, 1) := by decide +kernel
theorem dX8_triesInAll_6 : decode cX8_triesInAll 6 = .ok (.lstore_n 2, 1) := by decide +kernel
theorem dX8_triesInAll_7 : decode cX8_triesInAll 7 = .ok (.iconst 0, 1) := by decide +kernel
theorem dX8_triesInAll_8 : decode cX8_triesInAll 8 = .ok (.istore 4, 2) := by decide +kernel
theorem dX8_triesInAll_10 : decode cX8_triesInAll 10 = .ok (.iload 4, 2) := by decide +kernel
theorem dX8_triesInAll_12 : decode cX8_triesInAll 12 = .ok (.iload_n 1, 1) := by decide +kernel
theorem dX8_triesInAll_13 : decode cX8_triesInAll 13 = .ok (.if_icmp .ge 30, 3) := by decide +kernel
theorem dX8_triesInAll_16 : decode cX8_triesInAll 16 = .ok (.lload_n 2, 1) := by decide +kernel
theorem dX8_triesInAll_17 : decode cX8_triesInAll 17 = .ok (.iload 4, 2) := by decide +kernel
theorem dX8_triesInAll_19 : decode cX8_triesInAll 19 = .ok (.iconst 1, 1) := by decide +kernel
theorem dX8_triesInAll_20 : decode cX8_triesInAll 20 = .ok (.iadd, 1) := by decide +kernel
theorem dX8_triesInAll_21 : decode cX8_triesInAll 21 = .ok (.i2l, 1) := by decide +kernel
theorem dX8_triesInAll_22 : decode cX8_triesInAll 22 = .ok (.aload_n 0, 1) := by decide +kernel
theorem dX8_triesInAll_23 : decode cX8_triesInAll 23 = .ok (.getfield 31, 3) := by decide +kernel
theorem dX8_triesInAll_26 : decode cX8_triesInAll 26 = .ok (.aload_n 0, 1) := by decide +kernel
theorem dX8_triesInAll_27 : decode cX8_triesInAll 27 = .ok (.getfield 38, 3) := by decide +kernel
theorem dX8_triesInAll_30 : decode cX8_triesInAll 30 = .ok (.iload 4, 2) := by decide +kernel
theorem dX8_triesInAll_32 : decode cX8_triesInAll 32 = .ok (.iaload, 1) := by decide +kernel
theorem dX8_triesInAll_33 : decode cX8_triesInAll 33 = .ok (.laload, 1) := by decide +kernel
theorem dX8_triesInAll_34 : decode cX8_triesInAll 34 = .ok (.lmul, 1) := by decide +kernel
theorem dX8_triesInAll_35 : decode cX8_triesInAll 35 = .ok (.ladd, 1) := by decide +kernel
theorem dX8_triesInAll_36 : decode cX8_triesInAll 36 = .ok (.lstore_n 2, 1) := by decide +kernel
theorem dX8_triesInAll_37 : decode cX8_triesInAll 37 = .ok (.iinc 4 1, 3) := by decide +kernel
theorem dX8_triesInAll_40 : decode cX8_triesInAll 40 = .ok (.goto (-30), 3) := by decide +kernel
theorem dX8_triesInAll_43 : decode cX8_triesInAll 43 = .ok (.lload_n 2, 1) := by decide +kernel
theorem dX8_triesInAll_44 : decode cX8_triesInAll 44 = .ok (.lreturn, 1) := by decide +kernel
theorem dX8_weightOfFirst_0 : decode cX8_weightOfFirst 0 = .ok (.iload_n 1, 1) := by decide +kernel
theorem dX8_weightOfFirst_1 : decode cX8_weightOfFirst 1 = .ok (.aload_n 0, 1) := by decide +kernel
theorem dX8_weightOfFirst_2 : decode cX8_weightOfFirst 2 = .ok (.invokevirtual 182, 3) := by decide +kernel
theorem dX8_weightOfFirst_5 : decode cX8_weightOfFirst 5 = .ok (.invokestatic 185, 3) := by decide +kernel
theorem dX8_weightOfFirst_8 : decode cX8_weightOfFirst 8 = .ok (.istore_n 2, 1) := by decide +kernel
theorem dX8_weightOfFirst_9 : decode cX8_weightOfFirst 9 = .ok (.lconst 0, 1) := by decide +kernel
theorem dX8_weightOfFirst_10 : decode cX8_weightOfFirst 10 = .ok (.lstore_n 3, 1) := by decide +kernel
theorem dX8_weightOfFirst_11 : decode cX8_weightOfFirst 11 = .ok (.iconst 0, 1) := by decide +kernel
theorem dX8_weightOfFirst_12 : decode cX8_weightOfFirst 12 = .ok (.istore 5, 2) := by decide +kernel
theorem dX8_weightOfFirst_14 : decode cX8_weightOfFirst 14 = .ok (.iload 5, 2) := by decide +kernel
theorem dX8_weightOfFirst_16 : decode cX8_weightOfFirst 16 = .ok (.iload_n 2, 1) := by decide +kernel
theorem dX8_weightOfFirst_17 : decode cX8_weightOfFirst 17 = .ok (.if_icmp .ge 24, 3) := by decide +kernel
theorem dX8_weightOfFirst_20 : decode cX8_weightOfFirst 20 = .ok (.lload_n 3, 1) := by decide +kernel
theorem dX8_weightOfFirst_21 : decode cX8_weightOfFirst 21 = .ok (.aload_n 0, 1) := by decide +kernel
theorem dX8_weightOfFirst_22 : decode cX8_weightOfFirst 22 = .ok (.getfield 31, 3) := by decide +kernel
theorem dX8_weightOfFirst_25 : decode cX8_weightOfFirst 25 = .ok (.aload_n 0, 1) := by decide +kernel
theorem dX8_weightOfFirst_26 : decode cX8_weightOfFirst 26 = .ok (.getfield 38, 3) := by decide +kernel
theorem dX8_weightOfFirst_29 : decode cX8_weightOfFirst 29 = .ok (.iload 5, 2) := by decide +kernel
theorem dX8_weightOfFirst_31 : decode cX8_weightOfFirst 31 = .ok (.iaload, 1) := by decide +kernel
theorem dX8_weightOfFirst_32 : decode cX8_weightOfFirst 32 = .ok (.laload, 1) := by decide +kernel
theorem dX8_weightOfFirst_33 : decode cX8_weightOfFirst 33 = .ok (.ladd, 1) := by decide +kernel
theorem dX8_weightOfFirst_34 : decode cX8_weightOfFirst 34 = .ok (.lstore_n 3, 1) := by decide +kernel
theorem dX8_weightOfFirst_35 : decode cX8_weightOfFirst 35 = .ok (.iinc 5 1, 3) := by decide +kernel
theorem dX8_weightOfFirst_38 : decode cX8_weightOfFirst 38 = .ok (.goto (-24), 3) := by decide +kernel
theorem dX8_weightOfFirst_41 : decode cX8_weightOfFirst 41 = .ok (.lload_n 3, 1) := by decide +kernel
theorem dX8_weightOfFirst_42 : decode cX8_weightOfFirst 42 = .ok (.lreturn, 1) := by decide +kernel
theorem dX8_gather_0 : decode cX8_gather 0 = .ok (.aload_n 1, 1) := by decide +kernel
theorem dX8_gather_1 : decode cX8_gather 1 = .ok (.instanceof 99, 3) := by decide +kernel
theorem dX8_gather_4 : decode cX8_gather 4 = .ok (.ifCond .eq 40, 3) := by decide +kernel
theorem dX8_gather_7 : decode cX8_gather 7 = .ok (.aload_n 0, 1) := by decide +kernel
theorem dX8_gather_8 : decode cX8_gather 8 = .ok (.aload_n 0, 1) := by decide +kernel
theorem dX8_gather_9 : decode cX8_gather 9 = .ok (.getfield 35, 3) := by decide +kernel
theorem dX8_gather_12 : decode cX8_gather 12 = .ok (.iload_n 2, 1) := by decide +kernel
theorem dX8_gather_13 : decode cX8_gather 13 = .ok (.ifCond .eq 14, 3) := by decide +kernel
theorem dX8_gather_16 : decode cX8_gather 16 = .ok (.aload_n 0, 1) := by decide +kernel
theorem dX8_gather_17 : decode cX8_gather 17 = .ok (.aload_n 0, 1) := by decide +kernel
theorem dX8_gather_18 : decode cX8_gather 18 = .ok (.getfield 31, 3) := by decide +kernel
theorem dX8_gather_21 : decode cX8_gather 21 = .ok (.invokevirtual 178, 3) := by decide +kernel
theorem dX8_gather_24 : decode cX8_gather 24 = .ok (.goto 16, 3) := by decide +kernel
theorem dX8_gather_27 : decode cX8_gather 27 = .ok (.aload_n 0, 1) := by decide +kernel
theorem dX8_gather_28 : decode cX8_gather 28 = .ok (.getfield 31, 3) := by decide +kernel
theorem dX8_gather_31 : decode cX8_gather 31 = .ok (.aload_n 0, 1) := by decide +kernel
theorem dX8_gather_32 : decode cX8_gather 32 = .ok (.aload_n 0, 1) := by decide +kernel
theorem dX8_gather_33 : decode cX8_gather 33 = .ok (.getfield 31, 3) := by decide +kernel
theorem dX8_gather_36 : decode cX8_gather 36 = .ok (.invokevirtual 190, 3) := by decide +kernel
theorem dX8_gather_39 : decode cX8_gather 39 = .ok (.laload, 1) := by decide +kernel
theorem dX8_gather_40 : decode cX8_gather 40 = .ok (.invokevirtual 127, 3) := by decide +kernel
theorem dX8_gather_43 : decode cX8_gather 43 = .ok (.return_, 1) := by decide +kernel
theorem dX8_gather_44 : decode cX8_gather 44 = .ok (.aload_n 0, 1) := by decide +kernel
theorem dX8_gather_45 : decode cX8_gather 45 = .ok (.aload_n 0, 1) := by decide +kernel
theorem dX8_gather_46 : decode cX8_gather 46 = .ok (.getfield 35, 3) := by decide +kernel
theorem dX8_gather_49 : decode cX8_gather 49 = .ok (.lconst 0, 1) := by decide +kernel
theorem dX8_gather_50 : decode cX8_gather 50 = .ok (.invokevirtual 127, 3) := by decide +kernel
theorem dX8_gather_53 : decode cX8_gather 53 = .ok (.iconst 0, 1) := by decide +kernel
theorem dX8_gather_54 : decode cX8_gather 54 = .ok (.istore_n 3, 1) := by decide +kernel
theorem dX8_gather_55 : decode cX8_gather 55 = .ok (.iload_n 3, 1) := by decide +kernel
theorem dX8_gather_56 : decode cX8_gather 56 = .ok (.aload_n 0, 1) := by decide +kernel
theorem dX8_gather_57 : decode cX8_gather 57 = .ok (.getfield 18, 3) := by decide +kernel
theorem dX8_gather_60 : decode cX8_gather 60 = .ok (.getfield 144, 3) := by decide +kernel
theorem dX8_gather_63 : decode cX8_gather 63 = .ok (.if_icmp .ge 111, 3) := by decide +kernel
theorem dX8_gather_66 : decode cX8_gather 66 = .ok (.iconst 0, 1) := by decide +kernel
theorem dX8_gather_67 : decode cX8_gather 67 = .ok (.istore 4, 2) := by decide +kernel
theorem dX8_gather_69 : decode cX8_gather 69 = .ok (.iload 4, 2) := by decide +kernel
theorem dX8_gather_71 : decode cX8_gather 71 = .ok (.aload_n 1, 1) := by decide +kernel
theorem dX8_gather_72 : decode cX8_gather 72 = .ok (.getfield 193, 3) := by decide +kernel
theorem dX8_gather_75 : decode cX8_gather 75 = .ok (.if_icmp .ge 93, 3) := by decide +kernel
theorem dX8_gather_78 : decode cX8_gather 78 = .ok (.aload_n 0, 1) := by decide +kernel
theorem dX8_gather_79 : decode cX8_gather 79 = .ok (.getfield 31, 3) := by decide +kernel
theorem dX8_gather_82 : decode cX8_gather 82 = .ok (.iload_n 3, 1) := by decide +kernel
theorem dX8_gather_83 : decode cX8_gather 83 = .ok (.laload, 1) := by decide +kernel
theorem dX8_gather_84 : decode cX8_gather 84 = .ok (.lconst 0, 1) := by decide +kernel
theorem dX8_gather_85 : decode cX8_gather 85 = .ok (.lcmp, 1) := by decide +kernel
theorem dX8_gather_86 : decode cX8_gather 86 = .ok (.ifCond .le 82, 3) := by decide +kernel
theorem dX8_gather_89 : decode cX8_gather 89 = .ok (.aload_n 1, 1) := by decide +kernel
theorem dX8_gather_90 : decode cX8_gather 90 = .ok (.getfield 196, 3) := by decide +kernel
theorem dX8_gather_93 : decode cX8_gather 93 = .ok (.iload 4, 2) := by decide +kernel
theorem dX8_gather_95 : decode cX8_gather 95 = .ok (.iaload, 1) := by decide +kernel
theorem dX8_gather_96 : decode cX8_gather 96 = .ok (.istore 5, 2) := by decide +kernel
theorem dX8_gather_98 : decode cX8_gather 98 = .ok (.aload_n 0, 1) := by decide +kernel
theorem dX8_gather_99 : decode cX8_gather 99 = .ok (.getfield 18, 3) := by decide +kernel
theorem dX8_gather_102 : decode cX8_gather 102 = .ok (.iload_n 3, 1) := by decide +kernel
theorem dX8_gather_103 : decode cX8_gather 103 = .ok (.iload 5, 2) := by decide +kernel
theorem dX8_gather_105 : decode cX8_gather 105 = .ok (.invokevirtual 199, 3) := by decide +kernel
theorem dX8_gather_108 : decode cX8_gather 108 = .ok (.istore 6, 2) := by decide +kernel
theorem dX8_gather_110 : decode cX8_gather 110 = .ok (.aload_n 0, 1) := by decide +kernel
theorem dX8_gather_111 : decode cX8_gather 111 = .ok (.getfield 31, 3) := by decide +kernel
theorem dX8_gather_114 : decode cX8_gather 114 = .ok (.iload_n 3, 1) := by decide +kernel
theorem dX8_gather_115 : decode cX8_gather 115 = .ok (.laload, 1) := by decide +kernel
theorem dX8_gather_116 : decode cX8_gather 116 = .ok (.aload_n 1, 1) := by decide +kernel
theorem dX8_gather_117 : decode cX8_gather 117 = .ok (.iload 5, 2) := by decide +kernel
theorem dX8_gather_119 : decode cX8_gather 119 = .ok (.invokevirtual 150, 3) := by decide +kernel
theorem dX8_gather_122 : decode cX8_gather 122 = .ok (.i2l, 1) := by decide +kernel
theorem dX8_gather_123 : decode cX8_gather 123 = .ok (.lmul, 1) := by decide +kernel
theorem dX8_gather_124 : decode cX8_gather 124 = .ok (.lstore 7, 2) := by decide +kernel
theorem dX8_gather_126 : decode cX8_gather 126 = .ok (.aload_n 0, 1) := by decide +kernel
theorem dX8_gather_127 : decode cX8_gather 127 = .ok (.getfield 35, 3) := by decide +kernel
theorem dX8_gather_130 : decode cX8_gather 130 = .ok (.iload 6, 2) := by decide +kernel
theorem dX8_gather_132 : decode cX8_gather 132 = .ok (.iload_n 2, 1) := by decide +kernel
theorem dX8_gather_133 : decode cX8_gather 133 = .ok (.ifCond .eq 16, 3) := by decide +kernel
theorem dX8_gather_136 : decode cX8_gather 136 = .ok (.aload_n 0, 1) := by decide +kernel
theorem dX8_gather_137 : decode cX8_gather 137 = .ok (.getfield 35, 3) := by decide +kernel
theorem dX8_gather_140 : decode cX8_gather 140 = .ok (.iload 6, 2) := by decide +kernel
theorem dX8_gather_142 : decode cX8_gather 142 = .ok (.laload, 1) := by decide +kernel
theorem dX8_gather_143 : decode cX8_gather 143 = .ok (.lload 7, 2) := by decide +kernel
theorem dX8_gather_145 : decode cX8_gather 145 = .ok (.ladd, 1) := by decide +kernel
theorem dX8_gather_146 : decode cX8_gather 146 = .ok (.goto 15, 3) := by decide +kernel
theorem dX8_gather_149 : decode cX8_gather 149 = .ok (.aload_n 0, 1) := by decide +kernel
theorem dX8_gather_150 : decode cX8_gather 150 = .ok (.getfield 35, 3) := by decide +kernel
theorem dX8_gather_153 : decode cX8_gather 153 = .ok (.iload 6, 2) := by decide +kernel
theorem dX8_gather_155 : decode cX8_gather 155 = .ok (.laload, 1) := by decide +kernel
theorem dX8_gather_156 : decode cX8_gather 156 = .ok (.lload 7, 2) := by decide +kernel
theorem dX8_gather_158 : decode cX8_gather 158 = .ok (.invokestatic 202, 3) := by decide +kernel
theorem dX8_gather_161 : decode cX8_gather 161 = .ok (.lastore, 1) := by decide +kernel
theorem dX8_gather_162 : decode cX8_gather 162 = .ok (.iinc 4 1, 3) := by decide +kernel
theorem dX8_gather_165 : decode cX8_gather 165 = .ok (.goto (-96), 3) := by decide +kernel
theorem dX8_gather_168 : decode cX8_gather 168 = .ok (.iinc 3 1, 3) := by decide +kernel
theorem dX8_gather_171 : decode cX8_gather 171 = .ok (.goto (-116), 3) := by decide +kernel
theorem dX8_gather_174 : decode cX8_gather 174 = .ok (.return_, 1) := by decide +kernel
theorem dX8_worthOf_0 : decode cX8_worthOf 0 = .ok (.aload_n 0, 1) := by decide +kernel
theorem dX8_worthOf_1 : decode cX8_worthOf 1 = .ok (.aload_n 1, 1) := by decide +kernel
theorem dX8_worthOf_2 : decode cX8_worthOf 2 = .ok (.iconst 0, 1) := by decide +kernel
theorem dX8_worthOf_3 : decode cX8_worthOf 3 = .ok (.invokevirtual 206, 3) := by decide +kernel
theorem dX8_worthOf_6 : decode cX8_worthOf 6 = .ok (.aload_n 0, 1) := by decide +kernel
theorem dX8_worthOf_7 : decode cX8_worthOf 7 = .ok (.aload_n 0, 1) := by decide +kernel
theorem dX8_worthOf_8 : decode cX8_worthOf 8 = .ok (.getfield 35, 3) := by decide +kernel
theorem dX8_worthOf_11 : decode cX8_worthOf 11 = .ok (.invokevirtual 178, 3) := by decide +kernel
theorem dX8_worthOf_14 : decode cX8_worthOf 14 = .ok (.lreturn, 1) := by decide +kernel
theorem dX8_weighWorths_0 : decode cX8_weighWorths 0 = .ok (.iconst 0, 1) := by decide +kernel
theorem dX8_weighWorths_1 : decode cX8_weighWorths 1 = .ok (.istore_n 1, 1) := by decide +kernel
theorem dX8_weighWorths_2 : decode cX8_weighWorths 2 = .ok (.iload_n 1, 1) := by decide +kernel
theorem dX8_weighWorths_3 : decode cX8_weighWorths 3 = .ok (.aload_n 0, 1) := by decide +kernel
theorem dX8_weighWorths_4 : decode cX8_weighWorths 4 = .ok (.getfield 9, 3) := by decide +kernel
theorem dX8_weighWorths_7 : decode cX8_weighWorths 7 = .ok (.if_icmp .ge 34, 3) := by decide +kernel
theorem dX8_weighWorths_10 : decode cX8_weighWorths 10 = .ok (.aload_n 0, 1) := by decide +kernel
theorem dX8_weighWorths_11 : decode cX8_weighWorths 11 = .ok (.iload_n 1, 1) := by decide +kernel
theorem dX8_weighWorths_12 : decode cX8_weighWorths 12 = .ok (.invokevirtual 109, 3) := by decide +kernel
theorem dX8_weighWorths_15 : decode cX8_weighWorths 15 = .ok (.astore_n 2, 1) := by decide +kernel
theorem dX8_weighWorths_16 : decode cX8_weighWorths 16 = .ok (.aload_n 0, 1) := by decide +kernel
theorem dX8_weighWorths_17 : decode cX8_weighWorths 17 = .ok (.getfield 42, 3) := by decide +kernel
theorem dX8_weighWorths_20 : decode cX8_weighWorths 20 = .ok (.iload_n 1, 1) := by decide +kernel
theorem dX8_weighWorths_21 : decode cX8_weighWorths 21 = .ok (.aload_n 2, 1) := by decide +kernel
theorem dX8_weighWorths_22 : decode cX8_weighWorths 22 = .ok (.ifnonnull 7, 3) := by decide +kernel
theorem dX8_weighWorths_25 : decode cX8_weighWorths 25 = .ok (.lconst 0, 1) := by decide +kernel
theorem dX8_weighWorths_26 : decode cX8_weighWorths 26 = .ok (.goto 8, 3) := by decide +kernel
theorem dX8_weighWorths_29 : decode cX8_weighWorths 29 = .ok (.aload_n 0, 1) := by decide +kernel
theorem dX8_weighWorths_30 : decode cX8_weighWorths 30 = .ok (.aload_n 2, 1) := by decide +kernel
theorem dX8_weighWorths_31 : decode cX8_weighWorths 31 = .ok (.invokevirtual 210, 3) := by decide +kernel
theorem dX8_weighWorths_34 : decode cX8_weighWorths 34 = .ok (.lastore, 1) := by decide +kernel
theorem dX8_weighWorths_35 : decode cX8_weighWorths 35 = .ok (.iinc 1 1, 3) := by decide +kernel
theorem dX8_weighWorths_38 : decode cX8_weighWorths 38 = .ok (.goto (-36), 3) := by decide +kernel
theorem dX8_weighWorths_41 : decode cX8_weighWorths 41 = .ok (.return_, 1) := by decide +kernel
theorem dX8_firstByWorth_0 : decode cX8_firstByWorth 0 = .ok (.iconst 0, 1) := by decide +kernel
theorem dX8_firstByWorth_1 : decode cX8_firstByWorth 1 = .ok (.istore_n 2, 1) := by decide +kernel
theorem dX8_firstByWorth_2 : decode cX8_firstByWorth 2 = .ok (.iconst 1, 1) := by decide +kernel
theorem dX8_firstByWorth_3 : decode cX8_firstByWorth 3 = .ok (.istore_n 3, 1) := by decide +kernel
theorem dX8_firstByWorth_4 : decode cX8_firstByWorth 4 = .ok (.iload_n 3, 1) := by decide +kernel
theorem dX8_firstByWorth_5 : decode cX8_firstByWorth 5 = .ok (.aload_n 0, 1) := by decide +kernel
theorem dX8_firstByWorth_6 : decode cX8_firstByWorth 6 = .ok (.getfield 9, 3) := by decide +kernel
theorem dX8_firstByWorth_9 : decode cX8_firstByWorth 9 = .ok (.if_icmp .ge 89, 3) := by decide +kernel
theorem dX8_firstByWorth_12 : decode cX8_firstByWorth 12 = .ok (.aload_n 0, 1) := by decide +kernel
theorem dX8_firstByWorth_13 : decode cX8_firstByWorth 13 = .ok (.iload_n 3, 1) := by decide +kernel
theorem dX8_firstByWorth_14 : decode cX8_firstByWorth 14 = .ok (.invokevirtual 109, 3) := by decide +kernel
theorem dX8_firstByWorth_17 : decode cX8_firstByWorth 17 = .ok (.astore 4, 2) := by decide +kernel
theorem dX8_firstByWorth_19 : decode cX8_firstByWorth 19 = .ok (.aload_n 0, 1) := by decide +kernel
theorem dX8_firstByWorth_20 : decode cX8_firstByWorth 20 = .ok (.iload_n 2, 1) := by decide +kernel
theorem dX8_firstByWorth_21 : decode cX8_firstByWorth 21 = .ok (.invokevirtual 109, 3) := by decide +kernel
theorem dX8_firstByWorth_24 : decode cX8_firstByWorth 24 = .ok (.astore 5, 2) := by decide +kernel
theorem dX8_firstByWorth_26 : decode cX8_firstByWorth 26 = .ok (.aload 4, 2) := by decide +kernel
theorem dX8_firstByWorth_28 : decode cX8_firstByWorth 28 = .ok (.ifnull 64, 3) := by decide +kernel
theorem dX8_firstByWorth_31 : decode cX8_firstByWorth 31 = .ok (.aload 5, 2) := by decide +kernel
theorem dX8_firstByWorth_33 : decode cX8_firstByWorth 33 = .ok (.ifnull 59, 3) := by decide +kernel
theorem dX8_firstByWorth_36 : decode cX8_firstByWorth 36 = .ok (.aload_n 0, 1) := by decide +kernel
theorem dX8_firstByWorth_37 : decode cX8_firstByWorth 37 = .ok (.getfield 42, 3) := by decide +kernel
theorem dX8_firstByWorth_40 : decode cX8_firstByWorth 40 = .ok (.iload_n 3, 1) := by decide +kernel
theorem dX8_firstByWorth_41 : decode cX8_firstByWorth 41 = .ok (.laload, 1) := by decide +kernel
theorem dX8_firstByWorth_42 : decode cX8_firstByWorth 42 = .ok (.aload 5, 2) := by decide +kernel
theorem dX8_firstByWorth_44 : decode cX8_firstByWorth 44 = .ok (.getfield 214, 3) := by decide +kernel
theorem dX8_firstByWorth_47 : decode cX8_firstByWorth 47 = .ok (.i2l, 1) := by decide +kernel
theorem dX8_firstByWorth_48 : decode cX8_firstByWorth 48 = .ok (.lmul, 1) := by decide +kernel
theorem dX8_firstByWorth_49 : decode cX8_firstByWorth 49 = .ok (.aload_n 0, 1) := by decide +kernel
theorem dX8_firstByWorth_50 : decode cX8_firstByWorth 50 = .ok (.getfield 42, 3) := by decide +kernel
theorem dX8_firstByWorth_53 : decode cX8_firstByWorth 53 = .ok (.iload_n 2, 1) := by decide +kernel
theorem dX8_firstByWorth_54 : decode cX8_firstByWorth 54 = .ok (.laload, 1) := by decide +kernel
theorem dX8_firstByWorth_55 : decode cX8_firstByWorth 55 = .ok (.aload 4, 2) := by decide +kernel
theorem dX8_firstByWorth_57 : decode cX8_firstByWorth 57 = .ok (.getfield 214, 3) := by decide +kernel
theorem dX8_firstByWorth_60 : decode cX8_firstByWorth 60 = .ok (.i2l, 1) := by decide +kernel
theorem dX8_firstByWorth_61 : decode cX8_firstByWorth 61 = .ok (.lmul, 1) := by decide +kernel
theorem dX8_firstByWorth_62 : decode cX8_firstByWorth 62 = .ok (.lsub, 1) := by decide +kernel
theorem dX8_firstByWorth_63 : decode cX8_firstByWorth 63 = .ok (.lstore 6, 2) := by decide +kernel
theorem dX8_firstByWorth_65 : decode cX8_firstByWorth 65 = .ok (.iload_n 1, 1) := by decide +kernel
theorem dX8_firstByWorth_66 : decode cX8_firstByWorth 66 = .ok (.ifCond .eq 13, 3) := by decide +kernel
theorem dX8_firstByWorth_69 : decode cX8_firstByWorth 69 = .ok (.lload 6, 2) := by decide +kernel
theorem dX8_firstByWorth_71 : decode cX8_firstByWorth 71 = .ok (.lconst 0, 1) := by decide +kernel
theorem dX8_firstByWorth_72 : decode cX8_firstByWorth 72 = .ok (.lcmp, 1) := by decide +kernel
theorem dX8_firstByWorth_73 : decode cX8_firstByWorth 73 = .ok (.ifCond .le 17, 3) := by decide +kernel
theorem dX8_firstByWorth_76 : decode cX8_firstByWorth 76 = .ok (.goto 10, 3) := by decide +kernel
theorem dX8_firstByWorth_79 : decode cX8_firstByWorth 79 = .ok (.lload 6, 2) := by decide +kernel
theorem dX8_firstByWorth_81 : decode cX8_firstByWorth 81 = .ok (.lconst 0, 1) := by decide +kernel
theorem dX8_firstByWorth_82 : decode cX8_firstByWorth 82 = .ok (.lcmp, 1) := by decide +kernel
theorem dX8_firstByWorth_83 : decode cX8_firstByWorth 83 = .ok (.ifCond .ge 7, 3) := by decide +kernel
theorem dX8_firstByWorth_86 : decode cX8_firstByWorth 86 = .ok (.iload_n 3, 1) := by decide +kernel
theorem dX8_firstByWorth_87 : decode cX8_firstByWorth 87 = .ok (.goto 4, 3) := by decide +kernel
theorem dX8_firstByWorth_90 : decode cX8_firstByWorth 90 = .ok (.iload_n 2, 1) := by decide +kernel
theorem dX8_firstByWorth_91 : decode cX8_firstByWorth 91 = .ok (.istore_n 2, 1) := by decide +kernel
theorem dX8_firstByWorth_92 : decode cX8_firstByWorth 92 = .ok (.iinc 3 1, 3) := by decide +kernel
theorem dX8_firstByWorth_95 : decode cX8_firstByWorth 95 = .ok (.goto (-91), 3) := by decide +kernel
theorem dX8_firstByWorth_98 : decode cX8_firstByWorth 98 = .ok (.iload_n 2, 1) := by decide +kernel
theorem dX8_firstByWorth_99 : decode cX8_firstByWorth 99 = .ok (.ireturn, 1) := by decide +kernel
theorem dX8_weighTold_0 : decode cX8_weighTold 0 = .ok (.aload_n 0, 1) := by decide +kernel
theorem dX8_weighTold_1 : decode cX8_weighTold 1 = .ok (.aload_n 0, 1) := by decide +kernel
theorem dX8_weighTold_2 : decode cX8_weighTold 2 = .ok (.getfield 35, 3) := by decide +kernel
theorem dX8_weighTold_5 : decode cX8_weighTold 5 = .ok (.lconst 1, 1) := by decide +kernel
theorem dX8_weighTold_6 : decode cX8_weighTold 6 = .ok (.invokevirtual 127, 3) := by decide +kernel
theorem dX8_weighTold_9 : decode cX8_weighTold 9 = .ok (.iconst 0, 1) := by decide +kernel
theorem dX8_weighTold_10 : decode cX8_weighTold 10 = .ok (.istore_n 2, 1) := by decide +kernel
theorem dX8_weighTold_11 : decode cX8_weighTold 11 = .ok (.iload_n 2, 1) := by decide +kernel
theorem dX8_weighTold_12 : decode cX8_weighTold 12 = .ok (.iconst 1, 1) := by decide +kernel
theorem dX8_weighTold_13 : decode cX8_weighTold 13 = .ok (.iadd, 1) := by decide +kernel
theorem dX8_weighTold_14 : decode cX8_weighTold 14 = .ok (.aload_n 1, 1) := by decide +kernel
theorem dX8_weighTold_15 : decode cX8_weighTold 15 = .ok (.getfield 217, 3) := by decide +kernel
theorem dX8_weighTold_18 : decode cX8_weighTold 18 = .ok (.if_icmp .ge 41, 3) := by decide +kernel
theorem dX8_weighTold_21 : decode cX8_weighTold 21 = .ok (.aload_n 0, 1) := by decide +kernel
theorem dX8_weighTold_22 : decode cX8_weighTold 22 = .ok (.aload_n 1, 1) := by decide +kernel
theorem dX8_weighTold_23 : decode cX8_weighTold 23 = .ok (.getfield 220, 3) := by decide +kernel
theorem dX8_weighTold_26 : decode cX8_weighTold 26 = .ok (.iload_n 2, 1) := by decide +kernel
theorem dX8_weighTold_27 : decode cX8_weighTold 27 = .ok (.iaload, 1) := by decide +kernel
theorem dX8_weighTold_28 : decode cX8_weighTold 28 = .ok (.invokevirtual 109, 3) := by decide +kernel
theorem dX8_weighTold_31 : decode cX8_weighTold 31 = .ok (.astore_n 3, 1) := by decide +kernel
theorem dX8_weighTold_32 : decode cX8_weighTold 32 = .ok (.aload_n 3, 1) := by decide +kernel
theorem dX8_weighTold_33 : decode cX8_weighTold 33 = .ok (.ifnull 20, 3) := by decide +kernel
theorem dX8_weighTold_36 : decode cX8_weighTold 36 = .ok (.aload_n 0, 1) := by decide +kernel
theorem dX8_weighTold_37 : decode cX8_weighTold 37 = .ok (.aload_n 0, 1) := by decide +kernel
theorem dX8_weighTold_38 : decode cX8_weighTold 38 = .ok (.getfield 35, 3) := by decide +kernel
theorem dX8_weighTold_41 : decode cX8_weighTold 41 = .ok (.aload_n 3, 1) := by decide +kernel
theorem dX8_weighTold_42 : decode cX8_weighTold 42 = .ok (.aload_n 1, 1) := by decide +kernel
theorem dX8_weighTold_43 : decode cX8_weighTold 43 = .ok (.getfield 220, 3) := by decide +kernel
theorem dX8_weighTold_46 : decode cX8_weighTold 46 = .ok (.iload_n 2, 1) := by decide +kernel
theorem dX8_weighTold_47 : decode cX8_weighTold 47 = .ok (.iconst 1, 1) := by decide +kernel
theorem dX8_weighTold_48 : decode cX8_weighTold 48 = .ok (.iadd, 1) := by decide +kernel
theorem dX8_weighTold_49 : decode cX8_weighTold 49 = .ok (.iaload, 1) := by decide +kernel
theorem dX8_weighTold_50 : decode cX8_weighTold 50 = .ok (.invokevirtual 136, 3) := by decide +kernel
theorem dX8_weighTold_53 : decode cX8_weighTold 53 = .ok (.iinc 2 2, 3) := by decide +kernel
theorem dX8_weighTold_56 : decode cX8_weighTold 56 = .ok (.goto (-45), 3) := by decide +kernel
theorem dX8_weighTold_59 : decode cX8_weighTold 59 = .ok (.return_, 1) := by decide +kernel
theorem dX8_waysOfTold_0 : decode cX8_waysOfTold 0 = .ok (.aload_n 0, 1) := by decide +kernel
theorem dX8_waysOfTold_1 : decode cX8_waysOfTold 1 = .ok (.getfield 18, 3) := by decide +kernel
theorem dX8_waysOfTold_4 : decode cX8_waysOfTold 4 = .ok (.getfield 144, 3) := by decide +kernel
theorem dX8_waysOfTold_7 : decode cX8_waysOfTold 7 = .ok (.i2l, 1) := by decide +kernel
theorem dX8_waysOfTold_8 : decode cX8_waysOfTold 8 = .ok (.lstore_n 2, 1) := by decide +kernel
theorem dX8_waysOfTold_9 : decode cX8_waysOfTold 9 = .ok (.iconst 0, 1) := by decide +kernel
theorem dX8_waysOfTold_10 : decode cX8_waysOfTold 10 = .ok (.istore 4, 2) := by decide +kernel
theorem dX8_waysOfTold_12 : decode cX8_waysOfTold 12 = .ok (.iload 4, 2) := by decide +kernel
theorem dX8_waysOfTold_14 : decode cX8_waysOfTold 14 = .ok (.iconst 1, 1) := by decide +kernel
theorem dX8_waysOfTold_15 : decode cX8_waysOfTold 15 = .ok (.iadd, 1) := by decide +kernel
theorem dX8_waysOfTold_16 : decode cX8_waysOfTold 16 = .ok (.aload_n 1, 1) := by decide +kernel
theorem dX8_waysOfTold_17 : decode cX8_waysOfTold 17 = .ok (.getfield 217, 3) := by decide +kernel
theorem dX8_waysOfTold_20 : decode cX8_waysOfTold 20 = .ok (.if_icmp .ge 40, 3) := by decide +kernel
theorem dX8_waysOfTold_23 : decode cX8_waysOfTold 23 = .ok (.aload_n 0, 1) := by decide +kernel
theorem dX8_waysOfTold_24 : decode cX8_waysOfTold 24 = .ok (.aload_n 1, 1) := by decide +kernel
theorem dX8_waysOfTold_25 : decode cX8_waysOfTold 25 = .ok (.getfield 220, 3) := by decide +kernel
theorem dX8_waysOfTold_28 : decode cX8_waysOfTold 28 = .ok (.iload 4, 2) := by decide +kernel
theorem dX8_waysOfTold_30 : decode cX8_waysOfTold 30 = .ok (.iaload, 1) := by decide +kernel
theorem dX8_waysOfTold_31 : decode cX8_waysOfTold 31 = .ok (.invokevirtual 109, 3) := by decide +kernel
theorem dX8_waysOfTold_34 : decode cX8_waysOfTold 34 = .ok (.astore 5, 2) := by decide +kernel
theorem dX8_waysOfTold_36 : decode cX8_waysOfTold 36 = .ok (.lload_n 2, 1) := by decide +kernel
theorem dX8_waysOfTold_37 : decode cX8_waysOfTold 37 = .ok (.aload 5, 2) := by decide +kernel
theorem dX8_waysOfTold_39 : decode cX8_waysOfTold 39 = .ok (.ifnonnull 7, 3) := by decide +kernel
theorem dX8_waysOfTold_42 : decode cX8_waysOfTold 42 = .ok (.lconst 1, 1) := by decide +kernel
theorem dX8_waysOfTold_43 : decode cX8_waysOfTold 43 = .ok (.goto 9, 3) := by decide +kernel
theorem dX8_waysOfTold_46 : decode cX8_waysOfTold 46 = .ok (.aload 5, 2) := by decide +kernel
theorem dX8_waysOfTold_48 : decode cX8_waysOfTold 48 = .ok (.getfield 214, 3) := by decide +kernel
theorem dX8_waysOfTold_51 : decode cX8_waysOfTold 51 = .ok (.i2l, 1) := by decide +kernel
theorem dX8_waysOfTold_52 : decode cX8_waysOfTold 52 = .ok (.lmul, 1) := by decide +kernel
theorem dX8_waysOfTold_53 : decode cX8_waysOfTold 53 = .ok (.lstore_n 2, 1) := by decide +kernel
theorem dX8_waysOfTold_54 : decode cX8_waysOfTold 54 = .ok (.iinc 4 2, 3) := by decide +kernel
theorem dX8_waysOfTold_57 : decode cX8_waysOfTold 57 = .ok (.goto (-45), 3) := by decide +kernel
theorem dX8_waysOfTold_60 : decode cX8_waysOfTold 60 = .ok (.lload_n 2, 1) := by decide +kernel
theorem dX8_waysOfTold_61 : decode cX8_waysOfTold 61 = .ok (.lreturn, 1) := by decide +kernel
theorem dX8_allWho_0 : decode cX8_allWho 0 = .ok (.aload_n 0, 1) := by decide +kernel
theorem dX8_allWho_1 : decode cX8_allWho 1 = .ok (.getfield 18, 3) := by decide +kernel
theorem dX8_allWho_4 : decode cX8_allWho 4 = .ok (.iload_n 1, 1) := by decide +kernel
theorem dX8_allWho_5 : decode cX8_allWho 5 = .ok (.iload_n 2, 1) := by decide +kernel
theorem dX8_allWho_6 : decode cX8_allWho 6 = .ok (.invokevirtual 146, 3) := by decide +kernel
theorem dX8_allWho_9 : decode cX8_allWho 9 = .ok (.istore_n 3, 1) := by decide +kernel
theorem dX8_allWho_10 : decode cX8_allWho 10 = .ok (.iconst 0, 1) := by decide +kernel
theorem dX8_allWho_11 : decode cX8_allWho 11 = .ok (.istore 4, 2) := by decide +kernel
theorem dX8_allWho_13 : decode cX8_allWho 13 = .ok (.iconst 0, 1) := by decide +kernel
theorem dX8_allWho_14 : decode cX8_allWho 14 = .ok (.istore 5, 2) := by decide +kernel
theorem dX8_allWho_16 : decode cX8_allWho 16 = .ok (.iload 5, 2) := by decide +kernel
theorem dX8_allWho_18 : decode cX8_allWho 18 = .ok (.aload_n 0, 1) := by decide +kernel
theorem dX8_allWho_19 : decode cX8_allWho 19 = .ok (.getfield 9, 3) := by decide +kernel
theorem dX8_allWho_22 : decode cX8_allWho 22 = .ok (.if_icmp .ge 44, 3) := by decide +kernel
theorem dX8_allWho_25 : decode cX8_allWho 25 = .ok (.aload_n 0, 1) := by decide +kernel
theorem dX8_allWho_26 : decode cX8_allWho 26 = .ok (.iload 5, 2) := by decide +kernel
theorem dX8_allWho_28 : decode cX8_allWho 28 = .ok (.invokevirtual 109, 3) := by decide +kernel
theorem dX8_allWho_31 : decode cX8_allWho 31 = .ok (.astore 6, 2) := by decide +kernel
theorem dX8_allWho_33 : decode cX8_allWho 33 = .ok (.iload 4, 2) := by decide +kernel
theorem dX8_allWho_35 : decode cX8_allWho 35 = .ok (.aload 6, 2) := by decide +kernel
theorem dX8_allWho_37 : decode cX8_allWho 37 = .ok (.ifnull 19, 3) := by decide +kernel
theorem dX8_allWho_40 : decode cX8_allWho 40 = .ok (.aload 6, 2) := by decide +kernel
theorem dX8_allWho_42 : decode cX8_allWho 42 = .ok (.iload_n 3, 1) := by decide +kernel
theorem dX8_allWho_43 : decode cX8_allWho 43 = .ok (.invokevirtual 150, 3) := by decide +kernel
theorem dX8_allWho_46 : decode cX8_allWho 46 = .ok (.ifCond .le 10, 3) := by decide +kernel
theorem dX8_allWho_49 : decode cX8_allWho 49 = .ok (.iconst 1, 1) := by decide +kernel
theorem dX8_allWho_50 : decode cX8_allWho 50 = .ok (.iload 5, 2) := by decide +kernel
theorem dX8_allWho_52 : decode cX8_allWho 52 = .ok (.ishl, 1) := by decide +kernel
theorem dX8_allWho_53 : decode cX8_allWho 53 = .ok (.goto 4, 3) := by decide +kernel
theorem dX8_allWho_56 : decode cX8_allWho 56 = .ok (.iconst 0, 1) := by decide +kernel
theorem dX8_allWho_57 : decode cX8_allWho 57 = .ok (.ior, 1) := by decide +kernel
theorem dX8_allWho_58 : decode cX8_allWho 58 = .ok (.istore 4, 2) := by decide +kernel
theorem dX8_allWho_60 : decode cX8_allWho 60 = .ok (.iinc 5 1, 3) := by decide +kernel
theorem dX8_allWho_63 : decode cX8_allWho 63 = .ok (.goto (-47), 3) := by decide +kernel
theorem dX8_allWho_66 : decode cX8_allWho 66 = .ok (.iload 4, 2) := by decide +kernel
theorem dX8_allWho_68 : decode cX8_allWho 68 = .ok (.ireturn, 1) := by decide +kernel
theorem dX8_likeliestWho_0 : decode cX8_likeliestWho 0 = .ok (.aload_n 0, 1) := by decide +kernel
theorem dX8_likeliestWho_1 : decode cX8_likeliestWho 1 = .ok (.getfield 18, 3) := by decide +kernel
theorem dX8_likeliestWho_4 : decode cX8_likeliestWho 4 = .ok (.iload_n 1, 1) := by decide +kernel
theorem dX8_likeliestWho_5 : decode cX8_likeliestWho 5 = .ok (.iload_n 2, 1) := by decide +kernel
theorem dX8_likeliestWho_6 : decode cX8_likeliestWho 6 = .ok (.invokevirtual 146, 3) := by decide +kernel
theorem dX8_likeliestWho_9 : decode cX8_likeliestWho 9 = .ok (.istore_n 3, 1) := by decide +kernel
theorem dX8_likeliestWho_10 : decode cX8_likeliestWho 10 = .ok (.bipush (-9), 2) := by decide +kernel
theorem dX8_likeliestWho_12 : decode cX8_likeliestWho 12 = .ok (.istore 4, 2) := by decide +kernel
theorem dX8_likeliestWho_14 : decode cX8_likeliestWho 14 = .ok (.iconst 0, 1) := by decide +kernel
theorem dX8_likeliestWho_15 : decode cX8_likeliestWho 15 = .ok (.istore 5, 2) := by decide +kernel
theorem dX8_likeliestWho_17 : decode cX8_likeliestWho 17 = .ok (.iconst 1, 1) := by decide +kernel
theorem dX8_likeliestWho_18 : decode cX8_likeliestWho 18 = .ok (.istore 6, 2) := by decide +kernel
theorem dX8_likeliestWho_20 : decode cX8_likeliestWho 20 = .ok (.iconst 0, 1) := by decide +kernel
theorem dX8_likeliestWho_21 : decode cX8_likeliestWho 21 = .ok (.istore 7, 2) := by decide +kernel
theorem dX8_likeliestWho_23 : decode cX8_likeliestWho 23 = .ok (.iload 7, 2) := by decide +kernel
theorem dX8_likeliestWho_25 : decode cX8_likeliestWho 25 = .ok (.aload_n 0, 1) := by decide +kernel
theorem dX8_likeliestWho_26 : decode cX8_likeliestWho 26 = .ok (.getfield 9, 3) := by decide +kernel
theorem dX8_likeliestWho_29 : decode cX8_likeliestWho 29 = .ok (.if_icmp .ge 61, 3) := by decide +kernel
theorem dX8_likeliestWho_32 : decode cX8_likeliestWho 32 = .ok (.aload_n 0, 1) := by decide +kernel
theorem dX8_likeliestWho_33 : decode cX8_likeliestWho 33 = .ok (.iload 7, 2) := by decide +kernel
theorem dX8_likeliestWho_35 : decode cX8_likeliestWho 35 = .ok (.invokevirtual 109, 3) := by decide +kernel
theorem dX8_likeliestWho_38 : decode cX8_likeliestWho 38 = .ok (.astore 8, 2) := by decide +kernel
theorem dX8_likeliestWho_40 : decode cX8_likeliestWho 40 = .ok (.aload 8, 2) := by decide +kernel
theorem dX8_likeliestWho_42 : decode cX8_likeliestWho 42 = .ok (.ifnull 42, 3) := by decide +kernel
theorem dX8_likeliestWho_45 : decode cX8_likeliestWho 45 = .ok (.aload 8, 2) := by decide +kernel
theorem dX8_likeliestWho_47 : decode cX8_likeliestWho 47 = .ok (.iload_n 3, 1) := by decide +kernel
theorem dX8_likeliestWho_48 : decode cX8_likeliestWho 48 = .ok (.invokevirtual 150, 3) := by decide +kernel
theorem dX8_likeliestWho_51 : decode cX8_likeliestWho 51 = .ok (.iload 6, 2) := by decide +kernel
theorem dX8_likeliestWho_53 : decode cX8_likeliestWho 53 = .ok (.imul, 1) := by decide +kernel
theorem dX8_likeliestWho_54 : decode cX8_likeliestWho 54 = .ok (.iload 5, 2) := by decide +kernel
theorem dX8_likeliestWho_56 : decode cX8_likeliestWho 56 = .ok (.aload 8, 2) := by decide +kernel
theorem dX8_likeliestWho_58 : decode cX8_likeliestWho 58 = .ok (.getfield 214, 3) := by decide +kernel
theorem dX8_likeliestWho_61 : decode cX8_likeliestWho 61 = .ok (.imul, 1) := by decide +kernel
theorem dX8_likeliestWho_62 : decode cX8_likeliestWho 62 = .ok (.if_icmp .le 22, 3) := by decide +kernel
theorem dX8_likeliestWho_65 : decode cX8_likeliestWho 65 = .ok (.iload 7, 2) := by decide +kernel
theorem dX8_likeliestWho_67 : decode cX8_likeliestWho 67 = .ok (.istore 4, 2) := by decide +kernel
theorem dX8_likeliestWho_69 : decode cX8_likeliestWho 69 = .ok (.aload 8, 2) := by decide +kernel
theorem dX8_likeliestWho_71 : decode cX8_likeliestWho 71 = .ok (.iload_n 3, 1) := by decide +kernel
theorem dX8_likeliestWho_72 : decode cX8_likeliestWho 72 = .ok (.invokevirtual 150, 3) := by decide +kernel
theorem dX8_likeliestWho_75 : decode cX8_likeliestWho 75 = .ok (.istore 5, 2) := by decide +kernel
theorem dX8_likeliestWho_77 : decode cX8_likeliestWho 77 = .ok (.aload 8, 2) := by decide +kernel
theorem dX8_likeliestWho_79 : decode cX8_likeliestWho 79 = .ok (.getfield 214, 3) := by decide +kernel
theorem dX8_likeliestWho_82 : decode cX8_likeliestWho 82 = .ok (.istore 6, 2) := by decide +kernel
theorem dX8_likeliestWho_84 : decode cX8_likeliestWho 84 = .ok (.iinc 7 1, 3) := by decide +kernel
theorem dX8_likeliestWho_87 : decode cX8_likeliestWho 87 = .ok (.goto (-64), 3) := by decide +kernel
theorem dX8_likeliestWho_90 : decode cX8_likeliestWho 90 = .ok (.iload 4, 2) := by decide +kernel
theorem dX8_likeliestWho_92 : decode cX8_likeliestWho 92 = .ok (.ireturn, 1) := by decide +kernel
theorem dX8_shutByLots_0 : decode cX8_shutByLots 0 = .ok (.aload_n 0, 1) := by decide +kernel
theorem dX8_shutByLots_1 : decode cX8_shutByLots 1 = .ok (.getfield 27, 3) := by decide +kernel
theorem dX8_shutByLots_4 : decode cX8_shutByLots 4 = .ok (.iconst 0, 1) := by decide +kernel
theorem dX8_shutByLots_5 : decode cX8_shutByLots 5 = .ok (.putfield 85, 3) := by decide +kernel
theorem dX8_shutByLots_8 : decode cX8_shutByLots 8 = .ok (.aload_n 0, 1) := by decide +kernel
theorem dX8_shutByLots_9 : decode cX8_shutByLots 9 = .ok (.invokevirtual 88, 3) := by decide +kernel
theorem dX8_shutByLots_12 : decode cX8_shutByLots 12 = .ok (.iload_n 2, 1) := by decide +kernel
theorem dX8_shutByLots_13 : decode cX8_shutByLots 13 = .ok (.i2l, 1) := by decide +kernel
theorem dX8_shutByLots_14 : decode cX8_shutByLots 14 = .ok (.invokestatic 223, 3) := by decide +kernel
theorem dX8_shutByLots_17 : decode cX8_shutByLots 17 = .ok (.lstore_n 3, 1) := by decide +kernel
theorem dX8_shutByLots_18 : decode cX8_shutByLots 18 = .ok (.lload_n 3, 1) := by decide +kernel
theorem dX8_shutByLots_19 : decode cX8_shutByLots 19 = .ok (.aload_n 0, 1) := by decide +kernel
theorem dX8_shutByLots_20 : decode cX8_shutByLots 20 = .ok (.getfield 18, 3) := by decide +kernel
theorem dX8_shutByLots_23 : decode cX8_shutByLots 23 = .ok (.getfield 144, 3) := by decide +kernel
theorem dX8_shutByLots_26 : decode cX8_shutByLots 26 = .ok (.invokestatic 227, 3) := by decide +kernel
theorem dX8_shutByLots_29 : decode cX8_shutByLots 29 = .ok (.istore 5, 2) := by decide +kernel
theorem dX8_shutByLots_31 : decode cX8_shutByLots 31 = .ok (.iconst 0, 1) := by decide +kernel
theorem dX8_shutByLots_32 : decode cX8_shutByLots 32 = .ok (.istore 6, 2) := by decide +kernel
theorem dX8_shutByLots_34 : decode cX8_shutByLots 34 = .ok (.iload 6, 2) := by decide +kernel
theorem dX8_shutByLots_36 : decode cX8_shutByLots 36 = .ok (.iload_n 1, 1) := by decide +kernel
theorem dX8_shutByLots_37 : decode cX8_shutByLots 37 = .ok (.if_icmp .ge 73, 3) := by decide +kernel
theorem dX8_shutByLots_40 : decode cX8_shutByLots 40 = .ok (.lload_n 3, 1) := by decide +kernel
theorem dX8_shutByLots_41 : decode cX8_shutByLots 41 = .ok (.invokestatic 223, 3) := by decide +kernel
theorem dX8_shutByLots_44 : decode cX8_shutByLots 44 = .ok (.lstore_n 3, 1) := by decide +kernel
theorem dX8_shutByLots_45 : decode cX8_shutByLots 45 = .ok (.lload_n 3, 1) := by decide +kernel
theorem dX8_shutByLots_46 : decode cX8_shutByLots 46 = .ok (.ldc2_w 231, 3) := by decide +kernel
theorem dX8_shutByLots_49 : decode cX8_shutByLots 49 = .ok (.ldiv, 1) := by decide +kernel
theorem dX8_shutByLots_50 : decode cX8_shutByLots 50 = .ok (.aload_n 0, 1) := by decide +kernel
theorem dX8_shutByLots_51 : decode cX8_shutByLots 51 = .ok (.getfield 9, 3) := by decide +kernel
theorem dX8_shutByLots_54 : decode cX8_shutByLots 54 = .ok (.invokestatic 227, 3) := by decide +kernel
theorem dX8_shutByLots_57 : decode cX8_shutByLots 57 = .ok (.istore 7, 2) := by decide +kernel
theorem dX8_shutByLots_59 : decode cX8_shutByLots 59 = .ok (.lload_n 3, 1) := by decide +kernel
theorem dX8_shutByLots_60 : decode cX8_shutByLots 60 = .ok (.invokestatic 223, 3) := by decide +kernel
theorem dX8_shutByLots_63 : decode cX8_shutByLots 63 = .ok (.lstore_n 3, 1) := by decide +kernel
theorem dX8_shutByLots_64 : decode cX8_shutByLots 64 = .ok (.aload_n 0, 1) := by decide +kernel
theorem dX8_shutByLots_65 : decode cX8_shutByLots 65 = .ok (.iload 7, 2) := by decide +kernel
theorem dX8_shutByLots_67 : decode cX8_shutByLots 67 = .ok (.invokevirtual 109, 3) := by decide +kernel
theorem dX8_shutByLots_70 : decode cX8_shutByLots 70 = .ok (.astore 8, 2) := by decide +kernel
theorem dX8_shutByLots_72 : decode cX8_shutByLots 72 = .ok (.aload 8, 2) := by decide +kernel
theorem dX8_shutByLots_74 : decode cX8_shutByLots 74 = .ok (.ifnull 30, 3) := by decide +kernel
theorem dX8_shutByLots_77 : decode cX8_shutByLots 77 = .ok (.aload_n 0, 1) := by decide +kernel
theorem dX8_shutByLots_78 : decode cX8_shutByLots 78 = .ok (.iload 7, 2) := by decide +kernel
theorem dX8_shutByLots_80 : decode cX8_shutByLots 80 = .ok (.aload_n 0, 1) := by decide +kernel
theorem dX8_shutByLots_81 : decode cX8_shutByLots 81 = .ok (.aload 8, 2) := by decide +kernel
theorem dX8_shutByLots_83 : decode cX8_shutByLots 83 = .ok (.iload 5, 2) := by decide +kernel
theorem dX8_shutByLots_85 : decode cX8_shutByLots 85 = .ok (.lload_n 3, 1) := by decide +kernel
theorem dX8_shutByLots_86 : decode cX8_shutByLots 86 = .ok (.ldc2_w 233, 3) := by decide +kernel
theorem dX8_shutByLots_89 : decode cX8_shutByLots 89 = .ok (.ldiv, 1) := by decide +kernel
theorem dX8_shutByLots_90 : decode cX8_shutByLots 90 = .ok (.aload 8, 2) := by decide +kernel
theorem dX8_shutByLots_92 : decode cX8_shutByLots 92 = .ok (.getfield 214, 3) := by decide +kernel
theorem dX8_shutByLots_95 : decode cX8_shutByLots 95 = .ok (.invokestatic 227, 3) := by decide +kernel
theorem dX8_shutByLots_98 : decode cX8_shutByLots 98 = .ok (.invokevirtual 235, 3) := by decide +kernel
theorem dX8_shutByLots_101 : decode cX8_shutByLots 101 = .ok (.invokevirtual 239, 3) := by decide +kernel
theorem dX8_shutByLots_104 : decode cX8_shutByLots 104 = .ok (.iinc 6 1, 3) := by decide +kernel
theorem dX8_shutByLots_107 : decode cX8_shutByLots 107 = .ok (.goto (-73), 3) := by decide +kernel
theorem dX8_shutByLots_110 : decode cX8_shutByLots 110 = .ok (.iload 5, 2) := by decide +kernel
theorem dX8_shutByLots_112 : decode cX8_shutByLots 112 = .ok (.ireturn, 1) := by decide +kernel
theorem dX8_nextLot_0 : decode cX8_nextLot 0 = .ok (.ldc2_w 242, 3) := by decide +kernel
theorem dX8_nextLot_3 : decode cX8_nextLot 3 = .ok (.lload_n 0, 1) := by decide +kernel
theorem dX8_nextLot_4 : decode cX8_nextLot 4 = .ok (.lmul, 1) := by decide +kernel
theorem dX8_nextLot_5 : decode cX8_nextLot 5 = .ok (.ldc2_w 244, 3) := by decide +kernel
theorem dX8_nextLot_8 : decode cX8_nextLot 8 = .ok (.lrem, 1) := by decide +kernel
theorem dX8_nextLot_9 : decode cX8_nextLot 9 = .ok (.lreturn, 1) := by decide +kernel
theorem dX8_lotAmong_0 : decode cX8_lotAmong 0 = .ok (.iload_n 2, 1) := by decide +kernel
theorem dX8_lotAmong_1 : decode cX8_lotAmong 1 = .ok (.ifCond .gt 7, 3) := by decide +kernel
theorem dX8_lotAmong_4 : decode cX8_lotAmong 4 = .ok (.iconst 0, 1) := by decide +kernel
theorem dX8_lotAmong_5 : decode cX8_lotAmong 5 = .ok (.goto 8, 3) := by decide +kernel
theorem dX8_lotAmong_8 : decode cX8_lotAmong 8 = .ok (.lload_n 0, 1) := by decide +kernel
theorem dX8_lotAmong_9 : decode cX8_lotAmong 9 = .ok (.iload_n 2, 1) := by decide +kernel
theorem dX8_lotAmong_10 : decode cX8_lotAmong 10 = .ok (.i2l, 1) := by decide +kernel
theorem dX8_lotAmong_11 : decode cX8_lotAmong 11 = .ok (.lrem, 1) := by decide +kernel
theorem dX8_lotAmong_12 : decode cX8_lotAmong 12 = .ok (.l2i, 1) := by decide +kernel
theorem dX8_lotAmong_13 : decode cX8_lotAmong 13 = .ok (.ireturn, 1) := by decide +kernel
theorem dX8_sightOf_0 : decode cX8_sightOf 0 = .ok (.iload_n 3, 1) := by decide +kernel
theorem dX8_sightOf_1 : decode cX8_sightOf 1 = .ok (.istore 4, 2) := by decide +kernel
theorem dX8_sightOf_3 : decode cX8_sightOf 3 = .ok (.iconst 0, 1) := by decide +kernel
theorem dX8_sightOf_4 : decode cX8_sightOf 4 = .ok (.istore 5, 2) := by decide +kernel
theorem dX8_sightOf_6 : decode cX8_sightOf 6 = .ok (.iload 5, 2) := by decide +kernel
theorem dX8_sightOf_8 : decode cX8_sightOf 8 = .ok (.aload_n 0, 1) := by decide +kernel
theorem dX8_sightOf_9 : decode cX8_sightOf 9 = .ok (.getfield 18, 3) := by decide +kernel
theorem dX8_sightOf_12 : decode cX8_sightOf 12 = .ok (.getfield 144, 3) := by decide +kernel
theorem dX8_sightOf_15 : decode cX8_sightOf 15 = .ok (.if_icmp .ge 36, 3) := by decide +kernel
theorem dX8_sightOf_18 : decode cX8_sightOf 18 = .ok (.iload 4, 2) := by decide +kernel
theorem dX8_sightOf_20 : decode cX8_sightOf 20 = .ok (.aload_n 1, 1) := by decide +kernel
theorem dX8_sightOf_21 : decode cX8_sightOf 21 = .ok (.aload_n 0, 1) := by decide +kernel
theorem dX8_sightOf_22 : decode cX8_sightOf 22 = .ok (.getfield 18, 3) := by decide +kernel
theorem dX8_sightOf_25 : decode cX8_sightOf 25 = .ok (.iload_n 2, 1) := by decide +kernel
theorem dX8_sightOf_26 : decode cX8_sightOf 26 = .ok (.iload 5, 2) := by decide +kernel
theorem dX8_sightOf_28 : decode cX8_sightOf 28 = .ok (.invokevirtual 146, 3) := by decide +kernel
theorem dX8_sightOf_31 : decode cX8_sightOf 31 = .ok (.invokevirtual 150, 3) := by decide +kernel
theorem dX8_sightOf_34 : decode cX8_sightOf 34 = .ok (.isub, 1) := by decide +kernel
theorem dX8_sightOf_35 : decode cX8_sightOf 35 = .ok (.istore 4, 2) := by decide +kernel
theorem dX8_sightOf_37 : decode cX8_sightOf 37 = .ok (.iload 4, 2) := by decide +kernel
theorem dX8_sightOf_39 : decode cX8_sightOf 39 = .ok (.ifCond .ge 6, 3) := by decide +kernel
theorem dX8_sightOf_42 : decode cX8_sightOf 42 = .ok (.iload 5, 2) := by decide +kernel
theorem dX8_sightOf_44 : decode cX8_sightOf 44 = .ok (.ireturn, 1) := by decide +kernel
theorem dX8_sightOf_45 : decode cX8_sightOf 45 = .ok (.iinc 5 1, 3) := by decide +kernel
theorem dX8_sightOf_48 : decode cX8_sightOf 48 = .ok (.goto (-42), 3) := by decide +kernel
theorem dX8_sightOf_51 : decode cX8_sightOf 51 = .ok (.iload_n 2, 1) := by decide +kernel
theorem dX8_sightOf_52 : decode cX8_sightOf 52 = .ok (.ireturn, 1) := by decide +kernel
