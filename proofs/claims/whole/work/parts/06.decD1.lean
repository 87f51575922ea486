theorem dX12_init_0 : decode cX12_init 0 = .ok (.aload_n 0, 1) := by decide +kernel
theorem dX12_init_1 : decode cX12_init 1 = .ok (.invokespecial 1, 3) := by decide +kernel
theorem dX12_init_4 : decode cX12_init 4 = .ok (.aload_n 0, 1) := by decide +kernel
theorem dX12_init_5 : decode cX12_init 5 = .ok (.sipush 152, 3) := by decide +kernel
theorem dX12_init_8 : decode cX12_init 8 = .ok (.newarray .int, 2) := by decide +kernel
theorem dX12_init_10 : decode cX12_init 10 = .ok (.putfield 7, 3) := by decide +kernel
theorem dX12_init_13 : decode cX12_init 13 = .ok (.aload_n 0, 1) := by decide +kernel
theorem dX12_init_14 : decode cX12_init 14 = .ok (.iconst 5, 1) := by decide +kernel
theorem dX12_init_15 : decode cX12_init 15 = .ok (.newarray .int, 2) := by decide +kernel
theorem dX12_init_17 : decode cX12_init 17 = .ok (.putfield 13, 3) := by decide +kernel
theorem dX12_init_20 : decode cX12_init 20 = .ok (.aload_n 0, 1) := by decide +kernel
theorem dX12_init_21 : decode cX12_init 21 = .ok (.sipush 216, 3) := by decide +kernel
theorem dX12_init_24 : decode cX12_init 24 = .ok (.newarray .long, 2) := by decide +kernel
theorem dX12_init_26 : decode cX12_init 26 = .ok (.putfield 16, 3) := by decide +kernel
theorem dX12_init_29 : decode cX12_init 29 = .ok (.aload_n 0, 1) := by decide +kernel
theorem dX12_init_30 : decode cX12_init 30 = .ok (.bipush 6, 2) := by decide +kernel
theorem dX12_init_32 : decode cX12_init 32 = .ok (.newarray .int, 2) := by decide +kernel
theorem dX12_init_34 : decode cX12_init 34 = .ok (.dup, 1) := by decide +kernel
theorem dX12_init_35 : decode cX12_init 35 = .ok (.iconst 0, 1) := by decide +kernel
theorem dX12_init_36 : decode cX12_init 36 = .ok (.iconst (-1), 1) := by decide +kernel
theorem dX12_init_37 : decode cX12_init 37 = .ok (.iastore, 1) := by decide +kernel
theorem dX12_init_38 : decode cX12_init 38 = .ok (.dup, 1) := by decide +kernel
theorem dX12_init_39 : decode cX12_init 39 = .ok (.iconst 1, 1) := by decide +kernel
theorem dX12_init_40 : decode cX12_init 40 = .ok (.iconst (-1), 1) := by decide +kernel
theorem dX12_init_41 : decode cX12_init 41 = .ok (.iastore, 1) := by decide +kernel
theorem dX12_init_42 : decode cX12_init 42 = .ok (.dup, 1) := by decide +kernel
theorem dX12_init_43 : decode cX12_init 43 = .ok (.iconst 2, 1) := by decide +kernel
theorem dX12_init_44 : decode cX12_init 44 = .ok (.iconst (-1), 1) := by decide +kernel
theorem dX12_init_45 : decode cX12_init 45 = .ok (.iastore, 1) := by decide +kernel
theorem dX12_init_46 : decode cX12_init 46 = .ok (.dup, 1) := by decide +kernel
theorem dX12_init_47 : decode cX12_init 47 = .ok (.iconst 3, 1) := by decide +kernel
theorem dX12_init_48 : decode cX12_init 48 = .ok (.iconst (-1), 1) := by decide +kernel
theorem dX12_init_49 : decode cX12_init 49 = .ok (.iastore, 1) := by decide +kernel
theorem dX12_init_50 : decode cX12_init 50 = .ok (.dup, 1) := by decide +kernel
theorem dX12_init_51 : decode cX12_init 51 = .ok (.iconst 4, 1) := by decide +kernel
theorem dX12_init_52 : decode cX12_init 52 = .ok (.iconst (-1), 1) := by decide +kernel
theorem dX12_init_53 : decode cX12_init 53 = .ok (.iastore, 1) := by decide +kernel
theorem dX12_init_54 : decode cX12_init 54 = .ok (.dup, 1) := by decide +kernel
theorem dX12_init_55 : decode cX12_init 55 = .ok (.iconst 5, 1) := by decide +kernel
theorem dX12_init_56 : decode cX12_init 56 = .ok (.iconst (-1), 1) := by decide +kernel
theorem dX12_init_57 : decode cX12_init 57 = .ok (.iastore, 1) := by decide +kernel
theorem dX12_init_58 : decode cX12_init 58 = .ok (.putfield 20, 3) := by decide +kernel
theorem dX12_init_61 : decode cX12_init 61 = .ok (.aload_n 0, 1) := by decide +kernel
theorem dX12_init_62 : decode cX12_init 62 = .ok (.sipush 240, 3) := by decide +kernel
theorem dX12_init_65 : decode cX12_init 65 = .ok (.newarray .int, 2) := by decide +kernel
theorem dX12_init_67 : decode cX12_init 67 = .ok (.putfield 23, 3) := by decide +kernel
theorem dX12_init_70 : decode cX12_init 70 = .ok (.aload_n 0, 1) := by decide +kernel
theorem dX12_init_71 : decode cX12_init 71 = .ok (.iconst 4, 1) := by decide +kernel
theorem dX12_init_72 : decode cX12_init 72 = .ok (.newarray .int, 2) := by decide +kernel
theorem dX12_init_74 : decode cX12_init 74 = .ok (.dup, 1) := by decide +kernel
theorem dX12_init_75 : decode cX12_init 75 = .ok (.iconst 0, 1) := by decide +kernel
theorem dX12_init_76 : decode cX12_init 76 = .ok (.iconst (-1), 1) := by decide +kernel
theorem dX12_init_77 : decode cX12_init 77 = .ok (.iastore, 1) := by decide +kernel
theorem dX12_init_78 : decode cX12_init 78 = .ok (.dup, 1) := by decide +kernel
theorem dX12_init_79 : decode cX12_init 79 = .ok (.iconst 1, 1) := by decide +kernel
theorem dX12_init_80 : decode cX12_init 80 = .ok (.iconst (-1), 1) := by decide +kernel
theorem dX12_init_81 : decode cX12_init 81 = .ok (.iastore, 1) := by decide +kernel
theorem dX12_init_82 : decode cX12_init 82 = .ok (.dup, 1) := by decide +kernel
theorem dX12_init_83 : decode cX12_init 83 = .ok (.iconst 2, 1) := by decide +kernel
theorem dX12_init_84 : decode cX12_init 84 = .ok (.iconst (-1), 1) := by decide +kernel
theorem dX12_init_85 : decode cX12_init 85 = .ok (.iastore, 1) := by decide +kernel
theorem dX12_init_86 : decode cX12_init 86 = .ok (.dup, 1) := by decide +kernel
theorem dX12_init_87 : decode cX12_init 87 = .ok (.iconst 3, 1) := by decide +kernel
theorem dX12_init_88 : decode cX12_init 88 = .ok (.iconst (-1), 1) := by decide +kernel
theorem dX12_init_89 : decode cX12_init 89 = .ok (.iastore, 1) := by decide +kernel
theorem dX12_init_90 : decode cX12_init 90 = .ok (.putfield 26, 3) := by decide +kernel
theorem dX12_init_93 : decode cX12_init 93 = .ok (.aload_n 0, 1) := by decide +kernel
theorem dX12_init_94 : decode cX12_init 94 = .ok (.sipush 240, 3) := by decide +kernel
theorem dX12_init_97 : decode cX12_init 97 = .ok (.newarray .int, 2) := by decide +kernel
theorem dX12_init_99 : decode cX12_init 99 = .ok (.putfield 29, 3) := by decide +kernel
theorem dX12_init_102 : decode cX12_init 102 = .ok (.aload_n 0, 1) := by decide +kernel
theorem dX12_init_103 : decode cX12_init 103 = .ok (.lconst 1, 1) := by decide +kernel
theorem dX12_init_104 : decode cX12_init 104 = .ok (.putfield 32, 3) := by decide +kernel
theorem dX12_init_107 : decode cX12_init 107 = .ok (.aload_n 0, 1) := by decide +kernel
theorem dX12_init_108 : decode cX12_init 108 = .ok (.bipush 6, 2) := by decide +kernel
theorem dX12_init_110 : decode cX12_init 110 = .ok (.newarray .int, 2) := by decide +kernel
theorem dX12_init_112 : decode cX12_init 112 = .ok (.putfield 36, 3) := by decide +kernel
theorem dX12_init_115 : decode cX12_init 115 = .ok (.aload_n 0, 1) := by decide +kernel
theorem dX12_init_116 : decode cX12_init 116 = .ok (.bipush 10, 2) := by decide +kernel
theorem dX12_init_118 : decode cX12_init 118 = .ok (.newarray .int, 2) := by decide +kernel
theorem dX12_init_120 : decode cX12_init 120 = .ok (.putfield 39, 3) := by decide +kernel
theorem dX12_init_123 : decode cX12_init 123 = .ok (.aload_n 0, 1) := by decide +kernel
theorem dX12_init_124 : decode cX12_init 124 = .ok (.sipush 216, 3) := by decide +kernel
theorem dX12_init_127 : decode cX12_init 127 = .ok (.newarray .int, 2) := by decide +kernel
theorem dX12_init_129 : decode cX12_init 129 = .ok (.putfield 42, 3) := by decide +kernel
theorem dX12_init_132 : decode cX12_init 132 = .ok (.aload_n 0, 1) := by decide +kernel
theorem dX12_init_133 : decode cX12_init 133 = .ok (.sipush 216, 3) := by decide +kernel
theorem dX12_init_136 : decode cX12_init 136 = .ok (.newarray .long, 2) := by decide +kernel
theorem dX12_init_138 : decode cX12_init 138 = .ok (.putfield 45, 3) := by decide +kernel
theorem dX12_init_141 : decode cX12_init 141 = .ok (.iconst 1, 1) := by decide +kernel
theorem dX12_init_142 : decode cX12_init 142 = .ok (.istore_n 1, 1) := by decide +kernel
theorem dX12_init_143 : decode cX12_init 143 = .ok (.iload_n 1, 1) := by decide +kernel
theorem dX12_init_144 : decode cX12_init 144 = .ok (.iconst 4, 1) := by decide +kernel
theorem dX12_init_145 : decode cX12_init 145 = .ok (.if_icmp .ge 21, 3) := by decide +kernel
theorem dX12_init_148 : decode cX12_init 148 = .ok (.aload_n 0, 1) := by decide +kernel
theorem dX12_init_149 : decode cX12_init 149 = .ok (.getfield 7, 3) := by decide +kernel
theorem dX12_init_152 : decode cX12_init 152 = .ok (.bipush 38, 2) := by decide +kernel
theorem dX12_init_154 : decode cX12_init 154 = .ok (.iload_n 1, 1) := by decide +kernel
theorem dX12_init_155 : decode cX12_init 155 = .ok (.imul, 1) := by decide +kernel
theorem dX12_init_156 : decode cX12_init 156 = .ok (.iconst 0, 1) := by decide +kernel
theorem dX12_init_157 : decode cX12_init 157 = .ok (.iadd, 1) := by decide +kernel
theorem dX12_init_158 : decode cX12_init 158 = .ok (.iconst (-1), 1) := by decide +kernel
theorem dX12_init_159 : decode cX12_init 159 = .ok (.iastore, 1) := by decide +kernel
theorem dX12_init_160 : decode cX12_init 160 = .ok (.iinc 1 1, 3) := by decide +kernel
theorem dX12_init_163 : decode cX12_init 163 = .ok (.goto (-20), 3) := by decide +kernel
theorem dX12_init_166 : decode cX12_init 166 = .ok (.return_, 1) := by decide +kernel
theorem dX12_in_0 : decode cX12_in 0 = .ok (.lload_n 0, 1) := by decide +kernel
theorem dX12_in_1 : decode cX12_in 1 = .ok (.lload_n 2, 1) := by decide +kernel
theorem dX12_in_2 : decode cX12_in 2 = .ok (.lcmp, 1) := by decide +kernel
theorem dX12_in_3 : decode cX12_in 3 = .ok (.ifCond .lt 14, 3) := by decide +kernel
theorem dX12_in_6 : decode cX12_in 6 = .ok (.lload_n 0, 1) := by decide +kernel
theorem dX12_in_7 : decode cX12_in 7 = .ok (.lload 4, 2) := by decide +kernel
theorem dX12_in_9 : decode cX12_in 9 = .ok (.lcmp, 1) := by decide +kernel
theorem dX12_in_10 : decode cX12_in 10 = .ok (.ifCond .gt 7, 3) := by decide +kernel
theorem dX12_in_13 : decode cX12_in 13 = .ok (.iconst 1, 1) := by decide +kernel
theorem dX12_in_14 : decode cX12_in 14 = .ok (.goto 4, 3) := by decide +kernel
theorem dX12_in_17 : decode cX12_in 17 = .ok (.iconst 0, 1) := by decide +kernel
theorem dX12_in_18 : decode cX12_in 18 = .ok (.ireturn, 1) := by decide +kernel
theorem dX12_find_0 : decode cX12_find 0 = .ok (.aload_n 0, 1) := by decide +kernel
theorem dX12_find_1 : decode cX12_find 1 = .ok (.iload_n 1, 1) := by decide +kernel
theorem dX12_find_2 : decode cX12_find 2 = .ok (.putfield 48, 3) := by decide +kernel
theorem dX12_find_5 : decode cX12_find 5 = .ok (.aload_n 0, 1) := by decide +kernel
theorem dX12_find_6 : decode cX12_find 6 = .ok (.getfield 36, 3) := by decide +kernel
theorem dX12_find_9 : decode cX12_find 9 = .ok (.iload_n 1, 1) := by decide +kernel
theorem dX12_find_10 : decode cX12_find 10 = .ok (.dup2, 1) := by decide +kernel
theorem dX12_find_11 : decode cX12_find 11 = .ok (.iaload, 1) := by decide +kernel
theorem dX12_find_12 : decode cX12_find 12 = .ok (.iconst 1, 1) := by decide +kernel
theorem dX12_find_13 : decode cX12_find 13 = .ok (.iadd, 1) := by decide +kernel
theorem dX12_find_14 : decode cX12_find 14 = .ok (.iastore, 1) := by decide +kernel
theorem dX12_find_15 : decode cX12_find 15 = .ok (.bipush (-3), 2) := by decide +kernel
theorem dX12_find_17 : decode cX12_find 17 = .ok (.ireturn, 1) := by decide +kernel
theorem dX12_tell_0 : decode cX12_tell 0 = .ok (.aload_n 0, 1) := by decide +kernel
theorem dX12_tell_1 : decode cX12_tell 1 = .ok (.iload_n 1, 1) := by decide +kernel
theorem dX12_tell_2 : decode cX12_tell 2 = .ok (.putfield 52, 3) := by decide +kernel
theorem dX12_tell_5 : decode cX12_tell 5 = .ok (.iconst 1, 1) := by decide +kernel
theorem dX12_tell_6 : decode cX12_tell 6 = .ok (.ireturn, 1) := by decide +kernel
theorem dX12_isRow_0 : decode cX12_isRow 0 = .ok (.iload_n 0, 1) := by decide +kernel
theorem dX12_isRow_1 : decode cX12_isRow 1 = .ok (.i2l, 1) := by decide +kernel
theorem dX12_isRow_2 : decode cX12_isRow 2 = .ok (.lconst 0, 1) := by decide +kernel
theorem dX12_isRow_3 : decode cX12_isRow 3 = .ok (.ldc2_w 55, 3) := by decide +kernel
theorem dX12_isRow_6 : decode cX12_isRow 6 = .ok (.invokestatic 57, 3) := by decide +kernel
theorem dX12_isRow_9 : decode cX12_isRow 9 = .ok (.ireturn, 1) := by decide +kernel
theorem dX12_isText_0 : decode cX12_isText 0 = .ok (.iload_n 0, 1) := by decide +kernel
theorem dX12_isText_1 : decode cX12_isText 1 = .ok (.i2l, 1) := by decide +kernel
theorem dX12_isText_2 : decode cX12_isText 2 = .ok (.lconst 0, 1) := by decide +kernel
theorem dX12_isText_3 : decode cX12_isText 3 = .ok (.ldc2_w 61, 3) := by decide +kernel
theorem dX12_isText_6 : decode cX12_isText 6 = .ok (.invokestatic 57, 3) := by decide +kernel
theorem dX12_isText_9 : decode cX12_isText 9 = .ok (.ireturn, 1) := by decide +kernel
theorem dX12_row_0 : decode cX12_row 0 = .ok (.iload_n 1, 1) := by decide +kernel
theorem dX12_row_1 : decode cX12_row 1 = .ok (.invokestatic 63, 3) := by decide +kernel
theorem dX12_row_4 : decode cX12_row 4 = .ok (.ifCond .eq 9, 3) := by decide +kernel
theorem dX12_row_7 : decode cX12_row 7 = .ok (.iload_n 2, 1) := by decide +kernel
theorem dX12_row_8 : decode cX12_row 8 = .ok (.bipush 40, 2) := by decide +kernel
theorem dX12_row_10 : decode cX12_row 10 = .ok (.if_icmp .le 5, 3) := by decide +kernel
theorem dX12_row_13 : decode cX12_row 13 = .ok (.iconst (-1), 1) := by decide +kernel
theorem dX12_row_14 : decode cX12_row 14 = .ok (.ireturn, 1) := by decide +kernel
theorem dX12_row_15 : decode cX12_row 15 = .ok (.iload_n 2, 1) := by decide +kernel
theorem dX12_row_16 : decode cX12_row 16 = .ok (.ifCond .ge 9, 3) := by decide +kernel
theorem dX12_row_19 : decode cX12_row 19 = .ok (.aload_n 0, 1) := by decide +kernel
theorem dX12_row_20 : decode cX12_row 20 = .ok (.iconst 5, 1) := by decide +kernel
theorem dX12_row_21 : decode cX12_row 21 = .ok (.invokevirtual 67, 3) := by decide +kernel
theorem dX12_row_24 : decode cX12_row 24 = .ok (.ireturn, 1) := by decide +kernel
theorem dX12_row_25 : decode cX12_row 25 = .ok (.aload_n 0, 1) := by decide +kernel
theorem dX12_row_26 : decode cX12_row 26 = .ok (.iload_n 1, 1) := by decide +kernel
theorem dX12_row_27 : decode cX12_row 27 = .ok (.iload_n 2, 1) := by decide +kernel
theorem dX12_row_28 : decode cX12_row 28 = .ok (.invokevirtual 71, 3) := by decide +kernel
theorem dX12_row_31 : decode cX12_row 31 = .ok (.iload_n 2, 1) := by decide +kernel
theorem dX12_row_32 : decode cX12_row 32 = .ok (.ireturn, 1) := by decide +kernel
theorem dX12_makeRow_0 : decode cX12_makeRow 0 = .ok (.aload_n 0, 1) := by decide +kernel
theorem dX12_makeRow_1 : decode cX12_makeRow 1 = .ok (.getfield 20, 3) := by decide +kernel
theorem dX12_makeRow_4 : decode cX12_makeRow 4 = .ok (.iload_n 1, 1) := by decide +kernel
theorem dX12_makeRow_5 : decode cX12_makeRow 5 = .ok (.iload_n 2, 1) := by decide +kernel
theorem dX12_makeRow_6 : decode cX12_makeRow 6 = .ok (.iastore, 1) := by decide +kernel
theorem dX12_makeRow_7 : decode cX12_makeRow 7 = .ok (.iconst 0, 1) := by decide +kernel
theorem dX12_makeRow_8 : decode cX12_makeRow 8 = .ok (.istore_n 3, 1) := by decide +kernel
theorem dX12_makeRow_9 : decode cX12_makeRow 9 = .ok (.iload_n 3, 1) := by decide +kernel
theorem dX12_makeRow_10 : decode cX12_makeRow 10 = .ok (.bipush 40, 2) := by decide +kernel
theorem dX12_makeRow_12 : decode cX12_makeRow 12 = .ok (.if_icmp .ge 21, 3) := by decide +kernel
theorem dX12_makeRow_15 : decode cX12_makeRow 15 = .ok (.aload_n 0, 1) := by decide +kernel
theorem dX12_makeRow_16 : decode cX12_makeRow 16 = .ok (.getfield 23, 3) := by decide +kernel
theorem dX12_makeRow_19 : decode cX12_makeRow 19 = .ok (.bipush 40, 2) := by decide +kernel
theorem dX12_makeRow_21 : decode cX12_makeRow 21 = .ok (.iload_n 1, 1) := by decide +kernel
theorem dX12_makeRow_22 : decode cX12_makeRow 22 = .ok (.imul, 1) := by decide +kernel
theorem dX12_makeRow_23 : decode cX12_makeRow 23 = .ok (.iload_n 3, 1) := by decide +kernel
theorem dX12_makeRow_24 : decode cX12_makeRow 24 = .ok (.iadd, 1) := by decide +kernel
theorem dX12_makeRow_25 : decode cX12_makeRow 25 = .ok (.iconst 0, 1) := by decide +kernel
theorem dX12_makeRow_26 : decode cX12_makeRow 26 = .ok (.iastore, 1) := by decide +kernel
theorem dX12_makeRow_27 : decode cX12_makeRow 27 = .ok (.iinc 3 1, 3) := by decide +kernel
theorem dX12_makeRow_30 : decode cX12_makeRow 30 = .ok (.goto (-21), 3) := by decide +kernel
theorem dX12_makeRow_33 : decode cX12_makeRow 33 = .ok (.return_, 1) := by decide +kernel
theorem dX12_refused_0 : decode cX12_refused 0 = .ok (.iload_n 1, 1) := by decide +kernel
theorem dX12_refused_1 : decode cX12_refused 1 = .ok (.invokestatic 63, 3) := by decide +kernel
theorem dX12_refused_4 : decode cX12_refused 4 = .ok (.ifCond .ne 7, 3) := by decide +kernel
theorem dX12_refused_7 : decode cX12_refused 7 = .ok (.iconst (-1), 1) := by decide +kernel
theorem dX12_refused_8 : decode cX12_refused 8 = .ok (.goto 47, 3) := by decide +kernel
theorem dX12_refused_11 : decode cX12_refused 11 = .ok (.aload_n 0, 1) := by decide +kernel
theorem dX12_refused_12 : decode cX12_refused 12 = .ok (.getfield 20, 3) := by decide +kernel
theorem dX12_refused_15 : decode cX12_refused 15 = .ok (.iload_n 1, 1) := by decide +kernel
theorem dX12_refused_16 : decode cX12_refused 16 = .ok (.iaload, 1) := by decide +kernel
theorem dX12_refused_17 : decode cX12_refused 17 = .ok (.ifCond .ge 11, 3) := by decide +kernel
theorem dX12_refused_20 : decode cX12_refused 20 = .ok (.aload_n 0, 1) := by decide +kernel
theorem dX12_refused_21 : decode cX12_refused 21 = .ok (.iconst 1, 1) := by decide +kernel
theorem dX12_refused_22 : decode cX12_refused 22 = .ok (.invokevirtual 67, 3) := by decide +kernel
theorem dX12_refused_25 : decode cX12_refused 25 = .ok (.goto 30, 3) := by decide +kernel
theorem dX12_refused_28 : decode cX12_refused 28 = .ok (.iload_n 2, 1) := by decide +kernel
theorem dX12_refused_29 : decode cX12_refused 29 = .ok (.i2l, 1) := by decide +kernel
theorem dX12_refused_30 : decode cX12_refused 30 = .ok (.lconst 0, 1) := by decide +kernel
theorem dX12_refused_31 : decode cX12_refused 31 = .ok (.aload_n 0, 1) := by decide +kernel
theorem dX12_refused_32 : decode cX12_refused 32 = .ok (.getfield 20, 3) := by decide +kernel
theorem dX12_refused_35 : decode cX12_refused 35 = .ok (.iload_n 1, 1) := by decide +kernel
theorem dX12_refused_36 : decode cX12_refused 36 = .ok (.iaload, 1) := by decide +kernel
theorem dX12_refused_37 : decode cX12_refused 37 = .ok (.iconst 1, 1) := by decide +kernel
theorem dX12_refused_38 : decode cX12_refused 38 = .ok (.isub, 1) := by decide +kernel
theorem dX12_refused_39 : decode cX12_refused 39 = .ok (.i2l, 1) := by decide +kernel
theorem dX12_refused_40 : decode cX12_refused 40 = .ok (.invokestatic 57, 3) := by decide +kernel
theorem dX12_refused_43 : decode cX12_refused 43 = .ok (.ifCond .eq 7, 3) := by decide +kernel
theorem dX12_refused_46 : decode cX12_refused 46 = .ok (.iconst 0, 1) := by decide +kernel
theorem dX12_refused_47 : decode cX12_refused 47 = .ok (.goto 8, 3) := by decide +kernel
theorem dX12_refused_50 : decode cX12_refused 50 = .ok (.aload_n 0, 1) := by decide +kernel
theorem dX12_refused_51 : decode cX12_refused 51 = .ok (.iconst 2, 1) := by decide +kernel
theorem dX12_refused_52 : decode cX12_refused 52 = .ok (.invokevirtual 67, 3) := by decide +kernel
theorem dX12_refused_55 : decode cX12_refused 55 = .ok (.ireturn, 1) := by decide +kernel
theorem dX12_lay_0 : decode cX12_lay 0 = .ok (.aload_n 0, 1) := by decide +kernel
theorem dX12_lay_1 : decode cX12_lay 1 = .ok (.iload_n 1, 1) := by decide +kernel
theorem dX12_lay_2 : decode cX12_lay 2 = .ok (.iload_n 2, 1) := by decide +kernel
theorem dX12_lay_3 : decode cX12_lay 3 = .ok (.invokevirtual 75, 3) := by decide +kernel
theorem dX12_lay_6 : decode cX12_lay 6 = .ok (.istore 4, 2) := by decide +kernel
theorem dX12_lay_8 : decode cX12_lay 8 = .ok (.iload 4, 2) := by decide +kernel
theorem dX12_lay_10 : decode cX12_lay 10 = .ok (.ifCond .eq 6, 3) := by decide +kernel
theorem dX12_lay_13 : decode cX12_lay 13 = .ok (.iload 4, 2) := by decide +kernel
theorem dX12_lay_15 : decode cX12_lay 15 = .ok (.ireturn, 1) := by decide +kernel
theorem dX12_lay_16 : decode cX12_lay 16 = .ok (.aload_n 0, 1) := by decide +kernel
theorem dX12_lay_17 : decode cX12_lay 17 = .ok (.getfield 23, 3) := by decide +kernel
theorem dX12_lay_20 : decode cX12_lay 20 = .ok (.bipush 40, 2) := by decide +kernel
theorem dX12_lay_22 : decode cX12_lay 22 = .ok (.iload_n 1, 1) := by decide +kernel
theorem dX12_lay_23 : decode cX12_lay 23 = .ok (.imul, 1) := by decide +kernel
theorem dX12_lay_24 : decode cX12_lay 24 = .ok (.iload_n 2, 1) := by decide +kernel
theorem dX12_lay_25 : decode cX12_lay 25 = .ok (.iadd, 1) := by decide +kernel
theorem dX12_lay_26 : decode cX12_lay 26 = .ok (.iaload, 1) := by decide +kernel
theorem dX12_lay_27 : decode cX12_lay 27 = .ok (.istore 5, 2) := by decide +kernel
theorem dX12_lay_29 : decode cX12_lay 29 = .ok (.aload_n 0, 1) := by decide +kernel
theorem dX12_lay_30 : decode cX12_lay 30 = .ok (.getfield 23, 3) := by decide +kernel
theorem dX12_lay_33 : decode cX12_lay 33 = .ok (.bipush 40, 2) := by decide +kernel
theorem dX12_lay_35 : decode cX12_lay 35 = .ok (.iload_n 1, 1) := by decide +kernel
theorem dX12_lay_36 : decode cX12_lay 36 = .ok (.imul, 1) := by decide +kernel
theorem dX12_lay_37 : decode cX12_lay 37 = .ok (.iload_n 2, 1) := by decide +kernel
theorem dX12_lay_38 : decode cX12_lay 38 = .ok (.iadd, 1) := by decide +kernel
theorem dX12_lay_39 : decode cX12_lay 39 = .ok (.iload_n 3, 1) := by decide +kernel
theorem dX12_lay_40 : decode cX12_lay 40 = .ok (.iastore, 1) := by decide +kernel
theorem dX12_lay_41 : decode cX12_lay 41 = .ok (.aload_n 0, 1) := by decide +kernel
theorem dX12_lay_42 : decode cX12_lay 42 = .ok (.iload 5, 2) := by decide +kernel
theorem dX12_lay_44 : decode cX12_lay 44 = .ok (.invokevirtual 79, 3) := by decide +kernel
theorem dX12_lay_47 : decode cX12_lay 47 = .ok (.ireturn, 1) := by decide +kernel
theorem dX12_at_0 : decode cX12_at 0 = .ok (.aload_n 0, 1) := by decide +kernel
theorem dX12_at_1 : decode cX12_at 1 = .ok (.iload_n 1, 1) := by decide +kernel
theorem dX12_at_2 : decode cX12_at 2 = .ok (.iload_n 2, 1) := by decide +kernel
theorem dX12_at_3 : decode cX12_at 3 = .ok (.invokevirtual 75, 3) := by decide +kernel
theorem dX12_at_6 : decode cX12_at 6 = .ok (.istore_n 3, 1) := by decide +kernel
theorem dX12_at_7 : decode cX12_at 7 = .ok (.iload_n 3, 1) := by decide +kernel
theorem dX12_at_8 : decode cX12_at 8 = .ok (.ifCond .eq 7, 3) := by decide +kernel
theorem dX12_at_11 : decode cX12_at 11 = .ok (.iload_n 3, 1) := by decide +kernel
theorem dX12_at_12 : decode cX12_at 12 = .ok (.goto 18, 3) := by decide +kernel
theorem dX12_at_15 : decode cX12_at 15 = .ok (.aload_n 0, 1) := by decide +kernel
theorem dX12_at_16 : decode cX12_at 16 = .ok (.aload_n 0, 1) := by decide +kernel
theorem dX12_at_17 : decode cX12_at 17 = .ok (.getfield 23, 3) := by decide +kernel
theorem dX12_at_20 : decode cX12_at 20 = .ok (.bipush 40, 2) := by decide +kernel
theorem dX12_at_22 : decode cX12_at 22 = .ok (.iload_n 1, 1) := by decide +kernel
theorem dX12_at_23 : decode cX12_at 23 = .ok (.imul, 1) := by decide +kernel
theorem dX12_at_24 : decode cX12_at 24 = .ok (.iload_n 2, 1) := by decide +kernel
theorem dX12_at_25 : decode cX12_at 25 = .ok (.iadd, 1) := by decide +kernel
theorem dX12_at_26 : decode cX12_at 26 = .ok (.iaload, 1) := by decide +kernel
theorem dX12_at_27 : decode cX12_at 27 = .ok (.invokevirtual 79, 3) := by decide +kernel
theorem dX12_at_30 : decode cX12_at 30 = .ok (.ireturn, 1) := by decide +kernel
theorem dX12_tear_0 : decode cX12_tear 0 = .ok (.iload_n 1, 1) := by decide +kernel
theorem dX12_tear_1 : decode cX12_tear 1 = .ok (.invokestatic 63, 3) := by decide +kernel
theorem dX12_tear_4 : decode cX12_tear 4 = .ok (.ifCond .ne 5, 3) := by decide +kernel
theorem dX12_tear_7 : decode cX12_tear 7 = .ok (.iconst (-1), 1) := by decide +kernel
theorem dX12_tear_8 : decode cX12_tear 8 = .ok (.ireturn, 1) := by decide +kernel
theorem dX12_tear_9 : decode cX12_tear 9 = .ok (.aload_n 0, 1) := by decide +kernel
theorem dX12_tear_10 : decode cX12_tear 10 = .ok (.getfield 20, 3) := by decide +kernel
theorem dX12_tear_13 : decode cX12_tear 13 = .ok (.iload_n 1, 1) := by decide +kernel
theorem dX12_tear_14 : decode cX12_tear 14 = .ok (.iaload, 1) := by decide +kernel
theorem dX12_tear_15 : decode cX12_tear 15 = .ok (.ifCond .ge 9, 3) := by decide +kernel
theorem dX12_tear_18 : decode cX12_tear 18 = .ok (.aload_n 0, 1) := by decide +kernel
theorem dX12_tear_19 : decode cX12_tear 19 = .ok (.iconst 1, 1) := by decide +kernel
theorem dX12_tear_20 : decode cX12_tear 20 = .ok (.invokevirtual 67, 3) := by decide +kernel
theorem dX12_tear_23 : decode cX12_tear 23 = .ok (.ireturn, 1) := by decide +kernel
theorem dX12_tear_24 : decode cX12_tear 24 = .ok (.aload_n 0, 1) := by decide +kernel
theorem dX12_tear_25 : decode cX12_tear 25 = .ok (.getfield 20, 3) := by decide +kernel
theorem dX12_tear_28 : decode cX12_tear 28 = .ok (.iload_n 1, 1) := by decide +kernel
theorem dX12_tear_29 : decode cX12_tear 29 = .ok (.iconst (-1), 1) := by decide +kernel
theorem dX12_tear_30 : decode cX12_tear 30 = .ok (.iastore, 1) := by decide +kernel
theorem dX12_tear_31 : decode cX12_tear 31 = .ok (.iconst 1, 1) := by decide +kernel
theorem dX12_tear_32 : decode cX12_tear 32 = .ok (.ireturn, 1) := by decide +kernel
theorem dX12_isSpan_0 : decode cX12_isSpan 0 = .ok (.iload_n 2, 1) := by decide +kernel
theorem dX12_isSpan_1 : decode cX12_isSpan 1 = .ok (.ifCond .lt 23, 3) := by decide +kernel
theorem dX12_isSpan_4 : decode cX12_isSpan 4 = .ok (.iload_n 2, 1) := by decide +kernel
theorem dX12_isSpan_5 : decode cX12_isSpan 5 = .ok (.i2l, 1) := by decide +kernel
theorem dX12_isSpan_6 : decode cX12_isSpan 6 = .ok (.iload_n 3, 1) := by decide +kernel
theorem dX12_isSpan_7 : decode cX12_isSpan 7 = .ok (.i2l, 1) := by decide +kernel
theorem dX12_isSpan_8 : decode cX12_isSpan 8 = .ok (.ladd, 1) := by decide +kernel
theorem dX12_isSpan_9 : decode cX12_isSpan 9 = .ok (.aload_n 0, 1) := by decide +kernel
theorem dX12_isSpan_10 : decode cX12_isSpan 10 = .ok (.getfield 20, 3) := by decide +kernel
theorem dX12_isSpan_13 : decode cX12_isSpan 13 = .ok (.iload_n 1, 1) := by decide +kernel
theorem dX12_isSpan_14 : decode cX12_isSpan 14 = .ok (.iaload, 1) := by decide +kernel
theorem dX12_isSpan_15 : decode cX12_isSpan 15 = .ok (.i2l, 1) := by decide +kernel
theorem dX12_isSpan_16 : decode cX12_isSpan 16 = .ok (.lcmp, 1) := by decide +kernel
theorem dX12_isSpan_17 : decode cX12_isSpan 17 = .ok (.ifCond .gt 7, 3) := by decide +kernel
theorem dX12_isSpan_20 : decode cX12_isSpan 20 = .ok (.iconst 1, 1) := by decide +kernel
theorem dX12_isSpan_21 : decode cX12_isSpan 21 = .ok (.goto 4, 3) := by decide +kernel
theorem dX12_isSpan_24 : decode cX12_isSpan 24 = .ok (.iconst 0, 1) := by decide +kernel
theorem dX12_isSpan_25 : decode cX12_isSpan 25 = .ok (.ireturn, 1) := by decide +kernel
theorem dX12_copy_0 : decode cX12_copy 0 = .ok (.iload_n 1, 1) := by decide +kernel
theorem dX12_copy_1 : decode cX12_copy 1 = .ok (.invokestatic 63, 3) := by decide +kernel
theorem dX12_copy_4 : decode cX12_copy 4 = .ok (.ifCond .eq 10, 3) := by decide +kernel
theorem dX12_copy_7 : decode cX12_copy 7 = .ok (.iload_n 3, 1) := by decide +kernel
theorem dX12_copy_8 : decode cX12_copy 8 = .ok (.invokestatic 63, 3) := by decide +kernel
theorem dX12_copy_11 : decode cX12_copy 11 = .ok (.ifCond .ne 5, 3) := by decide +kernel
theorem dX12_copy_14 : decode cX12_copy 14 = .ok (.iconst (-1), 1) := by decide +kernel
theorem dX12_copy_15 : decode cX12_copy 15 = .ok (.ireturn, 1) := by decide +kernel
theorem dX12_copy_16 : decode cX12_copy 16 = .ok (.iload 5, 2) := by decide +kernel
theorem dX12_copy_18 : decode cX12_copy 18 = .ok (.ifCond .ge 9, 3) := by decide +kernel
theorem dX12_copy_21 : decode cX12_copy 21 = .ok (.aload_n 0, 1) := by decide +kernel
theorem dX12_copy_22 : decode cX12_copy 22 = .ok (.iconst 5, 1) := by decide +kernel
theorem dX12_copy_23 : decode cX12_copy 23 = .ok (.invokevirtual 67, 3) := by decide +kernel
theorem dX12_copy_26 : decode cX12_copy 26 = .ok (.ireturn, 1) := by decide +kernel
theorem dX12_copy_27 : decode cX12_copy 27 = .ok (.aload_n 0, 1) := by decide +kernel
theorem dX12_copy_28 : decode cX12_copy 28 = .ok (.getfield 20, 3) := by decide +kernel
theorem dX12_copy_31 : decode cX12_copy 31 = .ok (.iload_n 1, 1) := by decide +kernel
theorem dX12_copy_32 : decode cX12_copy 32 = .ok (.iaload, 1) := by decide +kernel
theorem dX12_copy_33 : decode cX12_copy 33 = .ok (.ifCond .lt 12, 3) := by decide +kernel
theorem dX12_copy_36 : decode cX12_copy 36 = .ok (.aload_n 0, 1) := by decide +kernel
theorem dX12_copy_37 : decode cX12_copy 37 = .ok (.getfield 20, 3) := by decide +kernel
theorem dX12_copy_40 : decode cX12_copy 40 = .ok (.iload_n 3, 1) := by decide +kernel
theorem dX12_copy_41 : decode cX12_copy 41 = .ok (.iaload, 1) := by decide +kernel
theorem dX12_copy_42 : decode cX12_copy 42 = .ok (.ifCond .ge 9, 3) := by decide +kernel
theorem dX12_copy_45 : decode cX12_copy 45 = .ok (.aload_n 0, 1) := by decide +kernel
theorem dX12_copy_46 : decode cX12_copy 46 = .ok (.iconst 1, 1) := by decide +kernel
theorem dX12_copy_47 : decode cX12_copy 47 = .ok (.invokevirtual 67, 3) := by decide +kernel
theorem dX12_copy_50 : decode cX12_copy 50 = .ok (.ireturn, 1) := by decide +kernel
theorem dX12_copy_51 : decode cX12_copy 51 = .ok (.aload_n 0, 1) := by decide +kernel
theorem dX12_copy_52 : decode cX12_copy 52 = .ok (.iload_n 1, 1) := by decide +kernel
theorem dX12_copy_53 : decode cX12_copy 53 = .ok (.iload_n 2, 1) := by decide +kernel
theorem dX12_copy_54 : decode cX12_copy 54 = .ok (.iload 5, 2) := by decide +kernel
theorem dX12_copy_56 : decode cX12_copy 56 = .ok (.invokevirtual 82, 3) := by decide +kernel
theorem dX12_copy_59 : decode cX12_copy 59 = .ok (.ifCond .eq 15, 3) := by decide +kernel
theorem dX12_copy_62 : decode cX12_copy 62 = .ok (.aload_n 0, 1) := by decide +kernel
theorem dX12_copy_63 : decode cX12_copy 63 = .ok (.iload_n 3, 1) := by decide +kernel
theorem dX12_copy_64 : decode cX12_copy 64 = .ok (.iload 4, 2) := by decide +kernel
theorem dX12_copy_66 : decode cX12_copy 66 = .ok (.iload 5, 2) := by decide +kernel
theorem dX12_copy_68 : decode cX12_copy 68 = .ok (.invokevirtual 82, 3) := by decide +kernel
theorem dX12_copy_71 : decode cX12_copy 71 = .ok (.ifCond .ne 9, 3) := by decide +kernel
theorem dX12_copy_74 : decode cX12_copy 74 = .ok (.aload_n 0, 1) := by decide +kernel
theorem dX12_copy_75 : decode cX12_copy 75 = .ok (.iconst 2, 1) := by decide +kernel
theorem dX12_copy_76 : decode cX12_copy 76 = .ok (.invokevirtual 67, 3) := by decide +kernel
theorem dX12_copy_79 : decode cX12_copy 79 = .ok (.ireturn, 1) := by decide +kernel
theorem dX12_copy_80 : decode cX12_copy 80 = .ok (.iload_n 2, 1) := by decide +kernel
theorem dX12_copy_81 : decode cX12_copy 81 = .ok (.iload 4, 2) := by decide +kernel
theorem dX12_copy_83 : decode cX12_copy 83 = .ok (.if_icmp .ge 7, 3) := by decide +kernel
theorem dX12_copy_86 : decode cX12_copy 86 = .ok (.iconst 1, 1) := by decide +kernel
theorem dX12_copy_87 : decode cX12_copy 87 = .ok (.goto 4, 3) := by decide +kernel
theorem dX12_copy_90 : decode cX12_copy 90 = .ok (.iconst 0, 1) := by decide +kernel
theorem dX12_copy_91 : decode cX12_copy 91 = .ok (.istore 6, 2) := by decide +kernel
theorem dX12_copy_93 : decode cX12_copy 93 = .ok (.iconst 0, 1) := by decide +kernel
theorem dX12_copy_94 : decode cX12_copy 94 = .ok (.istore 7, 2) := by decide +kernel
theorem dX12_copy_96 : decode cX12_copy 96 = .ok (.iload 7, 2) := by decide +kernel
theorem dX12_copy_98 : decode cX12_copy 98 = .ok (.iload 5, 2) := by decide +kernel
theorem dX12_copy_100 : decode cX12_copy 100 = .ok (.if_icmp .ge 57, 3) := by decide +kernel
theorem dX12_copy_103 : decode cX12_copy 103 = .ok (.iload 6, 2) := by decide +kernel
theorem dX12_copy_105 : decode cX12_copy 105 = .ok (.ifCond .eq 13, 3) := by decide +kernel
theorem dX12_copy_108 : decode cX12_copy 108 = .ok (.iload 5, 2) := by decide +kernel
theorem dX12_copy_110 : decode cX12_copy 110 = .ok (.iconst 1, 1) := by decide +kernel
theorem dX12_copy_111 : decode cX12_copy 111 = .ok (.isub, 1) := by decide +kernel
theorem dX12_copy_112 : decode cX12_copy 112 = .ok (.iload 7, 2) := by decide +kernel
theorem dX12_copy_114 : decode cX12_copy 114 = .ok (.isub, 1) := by decide +kernel
theorem dX12_copy_115 : decode cX12_copy 115 = .ok (.goto 5, 3) := by decide +kernel
theorem dX12_copy_118 : decode cX12_copy 118 = .ok (.iload 7, 2) := by decide +kernel
theorem dX12_copy_120 : decode cX12_copy 120 = .ok (.istore 8, 2) := by decide +kernel
theorem dX12_copy_122 : decode cX12_copy 122 = .ok (.aload_n 0, 1) := by decide +kernel
theorem dX12_copy_123 : decode cX12_copy 123 = .ok (.getfield 23, 3) := by decide +kernel
theorem dX12_copy_126 : decode cX12_copy 126 = .ok (.bipush 40, 2) := by decide +kernel
theorem dX12_copy_128 : decode cX12_copy 128 = .ok (.iload_n 3, 1) := by decide +kernel
theorem dX12_copy_129 : decode cX12_copy 129 = .ok (.imul, 1) := by decide +kernel
theorem dX12_copy_130 : decode cX12_copy 130 = .ok (.iload 4, 2) := by decide +kernel
theorem dX12_copy_132 : decode cX12_copy 132 = .ok (.iadd, 1) := by decide +kernel
theorem dX12_copy_133 : decode cX12_copy 133 = .ok (.iload 8, 2) := by decide +kernel
theorem dX12_copy_135 : decode cX12_copy 135 = .ok (.iadd, 1) := by decide +kernel
theorem dX12_copy_136 : decode cX12_copy 136 = .ok (.aload_n 0, 1) := by decide +kernel
theorem dX12_copy_137 : decode cX12_copy 137 = .ok (.getfield 23, 3) := by decide +kernel
theorem dX12_copy_140 : decode cX12_copy 140 = .ok (.bipush 40, 2) := by decide +kernel
theorem dX12_copy_142 : decode cX12_copy 142 = .ok (.iload_n 1, 1) := by decide +kernel
theorem dX12_copy_143 : decode cX12_copy 143 = .ok (.imul, 1) := by decide +kernel
theorem dX12_copy_144 : decode cX12_copy 144 = .ok (.iload_n 2, 1) := by decide +kernel
theorem dX12_copy_145 : decode cX12_copy 145 = .ok (.iadd, 1) := by decide +kernel
theorem dX12_copy_146 : decode cX12_copy 146 = .ok (.iload 8, 2) := by decide +kernel
theorem dX12_copy_148 : decode cX12_copy 148 = .ok (.iadd, 1) := by decide +kernel
theorem dX12_copy_149 : decode cX12_copy 149 = .ok (.iaload, 1) := by decide +kernel
theorem dX12_copy_150 : decode cX12_copy 150 = .ok (.iastore, 1) := by decide +kernel
theorem dX12_copy_151 : decode cX12_copy 151 = .ok (.iinc 7 1, 3) := by decide +kernel
theorem dX12_copy_154 : decode cX12_copy 154 = .ok (.goto (-58), 3) := by decide +kernel
theorem dX12_copy_157 : decode cX12_copy 157 = .ok (.iconst 1, 1) := by decide +kernel
theorem dX12_copy_158 : decode cX12_copy 158 = .ok (.ireturn, 1) := by decide +kernel
theorem dX12_mean_0 : decode cX12_mean 0 = .ok (.iload_n 1, 1) := by decide +kernel
theorem dX12_mean_1 : decode cX12_mean 1 = .ok (.invokestatic 63, 3) := by decide +kernel
theorem dX12_mean_4 : decode cX12_mean 4 = .ok (.ifCond .ne 5, 3) := by decide +kernel
theorem dX12_mean_7 : decode cX12_mean 7 = .ok (.iconst (-1), 1) := by decide +kernel
theorem dX12_mean_8 : decode cX12_mean 8 = .ok (.ireturn, 1) := by decide +kernel
theorem dX12_mean_9 : decode cX12_mean 9 = .ok (.aload_n 0, 1) := by decide +kernel
theorem dX12_mean_10 : decode cX12_mean 10 = .ok (.getfield 20, 3) := by decide +kernel
theorem dX12_mean_13 : decode cX12_mean 13 = .ok (.iload_n 1, 1) := by decide +kernel
theorem dX12_mean_14 : decode cX12_mean 14 = .ok (.iaload, 1) := by decide +kernel
theorem dX12_mean_15 : decode cX12_mean 15 = .ok (.ifCond .ge 9, 3) := by decide +kernel
theorem dX12_mean_18 : decode cX12_mean 18 = .ok (.aload_n 0, 1) := by decide +kernel
theorem dX12_mean_19 : decode cX12_mean 19 = .ok (.iconst 1, 1) := by decide +kernel
theorem dX12_mean_20 : decode cX12_mean 20 = .ok (.invokevirtual 67, 3) := by decide +kernel
theorem dX12_mean_23 : decode cX12_mean 23 = .ok (.ireturn, 1) := by decide +kernel
theorem dX12_mean_24 : decode cX12_mean 24 = .ok (.aload_n 0, 1) := by decide +kernel
theorem dX12_mean_25 : decode cX12_mean 25 = .ok (.getfield 20, 3) := by decide +kernel
theorem dX12_mean_28 : decode cX12_mean 28 = .ok (.iload_n 1, 1) := by decide +kernel
theorem dX12_mean_29 : decode cX12_mean 29 = .ok (.iaload, 1) := by decide +kernel
theorem dX12_mean_30 : decode cX12_mean 30 = .ok (.ifCond .ne 9, 3) := by decide +kernel
theorem dX12_mean_33 : decode cX12_mean 33 = .ok (.aload_n 0, 1) := by decide +kernel
theorem dX12_mean_34 : decode cX12_mean 34 = .ok (.iconst 4, 1) := by decide +kernel
theorem dX12_mean_35 : decode cX12_mean 35 = .ok (.invokevirtual 67, 3) := by decide +kernel
theorem dX12_mean_38 : decode cX12_mean 38 = .ok (.ireturn, 1) := by decide +kernel
theorem dX12_mean_39 : decode cX12_mean 39 = .ok (.lconst 0, 1) := by decide +kernel
theorem dX12_mean_40 : decode cX12_mean 40 = .ok (.lstore_n 2, 1) := by decide +kernel
theorem dX12_mean_41 : decode cX12_mean 41 = .ok (.iconst 0, 1) := by decide +kernel
theorem dX12_mean_42 : decode cX12_mean 42 = .ok (.istore 4, 2) := by decide +kernel
theorem dX12_mean_44 : decode cX12_mean 44 = .ok (.iload 4, 2) := by decide +kernel
theorem dX12_mean_46 : decode cX12_mean 46 = .ok (.aload_n 0, 1) := by decide +kernel
theorem dX12_mean_47 : decode cX12_mean 47 = .ok (.getfield 20, 3) := by decide +kernel
theorem dX12_mean_50 : decode cX12_mean 50 = .ok (.iload_n 1, 1) := by decide +kernel
theorem dX12_mean_51 : decode cX12_mean 51 = .ok (.iaload, 1) := by decide +kernel
theorem dX12_mean_52 : decode cX12_mean 52 = .ok (.if_icmp .ge 25, 3) := by decide +kernel
theorem dX12_mean_55 : decode cX12_mean 55 = .ok (.lload_n 2, 1) := by decide +kernel
theorem dX12_mean_56 : decode cX12_mean 56 = .ok (.aload_n 0, 1) := by decide +kernel
theorem dX12_mean_57 : decode cX12_mean 57 = .ok (.getfield 23, 3) := by decide +kernel
theorem dX12_mean_60 : decode cX12_mean 60 = .ok (.bipush 40, 2) := by decide +kernel
theorem dX12_mean_62 : decode cX12_mean 62 = .ok (.iload_n 1, 1) := by decide +kernel
theorem dX12_mean_63 : decode cX12_mean 63 = .ok (.imul, 1) := by decide +kernel
theorem dX12_mean_64 : decode cX12_mean 64 = .ok (.iload 4, 2) := by decide +kernel
theorem dX12_mean_66 : decode cX12_mean 66 = .ok (.iadd, 1) := by decide +kernel
theorem dX12_mean_67 : decode cX12_mean 67 = .ok (.iaload, 1) := by decide +kernel
theorem dX12_mean_68 : decode cX12_mean 68 = .ok (.i2l, 1) := by decide +kernel
theorem dX12_mean_69 : decode cX12_mean 69 = .ok (.ladd, 1) := by decide +kernel
theorem dX12_mean_70 : decode cX12_mean 70 = .ok (.lstore_n 2, 1) := by decide +kernel
theorem dX12_mean_71 : decode cX12_mean 71 = .ok (.iinc 4 1, 3) := by decide +kernel
theorem dX12_mean_74 : decode cX12_mean 74 = .ok (.goto (-30), 3) := by decide +kernel
theorem dX12_mean_77 : decode cX12_mean 77 = .ok (.aload_n 0, 1) := by decide +kernel
theorem dX12_mean_78 : decode cX12_mean 78 = .ok (.lload_n 2, 1) := by decide +kernel
theorem dX12_mean_79 : decode cX12_mean 79 = .ok (.aload_n 0, 1) := by decide +kernel
theorem dX12_mean_80 : decode cX12_mean 80 = .ok (.getfield 20, 3) := by decide +kernel
theorem dX12_mean_83 : decode cX12_mean 83 = .ok (.iload_n 1, 1) := by decide +kernel
theorem dX12_mean_84 : decode cX12_mean 84 = .ok (.iaload, 1) := by decide +kernel
theorem dX12_mean_85 : decode cX12_mean 85 = .ok (.i2l, 1) := by decide +kernel
theorem dX12_mean_86 : decode cX12_mean 86 = .ok (.ldiv, 1) := by decide +kernel
theorem dX12_mean_87 : decode cX12_mean 87 = .ok (.l2i, 1) := by decide +kernel
theorem dX12_mean_88 : decode cX12_mean 88 = .ok (.invokevirtual 79, 3) := by decide +kernel
theorem dX12_mean_91 : decode cX12_mean 91 = .ok (.ireturn, 1) := by decide +kernel
theorem dX12_text_0 : decode cX12_text 0 = .ok (.iload_n 1, 1) := by decide +kernel
theorem dX12_text_1 : decode cX12_text 1 = .ok (.invokestatic 86, 3) := by decide +kernel
theorem dX12_text_4 : decode cX12_text 4 = .ok (.ifCond .eq 9, 3) := by decide +kernel
theorem dX12_text_7 : decode cX12_text 7 = .ok (.iload_n 2, 1) := by decide +kernel
theorem dX12_text_8 : decode cX12_text 8 = .ok (.bipush 60, 2) := by decide +kernel
theorem dX12_text_10 : decode cX12_text 10 = .ok (.if_icmp .le 5, 3) := by decide +kernel
theorem dX12_text_13 : decode cX12_text 13 = .ok (.iconst (-1), 1) := by decide +kernel
theorem dX12_text_14 : decode cX12_text 14 = .ok (.ireturn, 1) := by decide +kernel
theorem dX12_text_15 : decode cX12_text 15 = .ok (.iload_n 2, 1) := by decide +kernel
theorem dX12_text_16 : decode cX12_text 16 = .ok (.ifCond .ge 9, 3) := by decide +kernel
theorem dX12_text_19 : decode cX12_text 19 = .ok (.aload_n 0, 1) := by decide +kernel
theorem dX12_text_20 : decode cX12_text 20 = .ok (.iconst 5, 1) := by decide +kernel
theorem dX12_text_21 : decode cX12_text 21 = .ok (.invokevirtual 67, 3) := by decide +kernel
theorem dX12_text_24 : decode cX12_text 24 = .ok (.ireturn, 1) := by decide +kernel
theorem dX12_text_25 : decode cX12_text 25 = .ok (.aload_n 0, 1) := by decide +kernel
theorem dX12_text_26 : decode cX12_text 26 = .ok (.getfield 26, 3) := by decide +kernel
theorem dX12_text_29 : decode cX12_text 29 = .ok (.iload_n 1, 1) := by decide +kernel
theorem dX12_text_30 : decode cX12_text 30 = .ok (.iload_n 2, 1) := by decide +kernel
theorem dX12_text_31 : decode cX12_text 31 = .ok (.iastore, 1) := by decide +kernel
theorem dX12_text_32 : decode cX12_text 32 = .ok (.iconst 0, 1) := by decide +kernel
theorem dX12_text_33 : decode cX12_text 33 = .ok (.istore_n 3, 1) := by decide +kernel
theorem dX12_text_34 : decode cX12_text 34 = .ok (.iload_n 3, 1) := by decide +kernel
theorem dX12_text_35 : decode cX12_text 35 = .ok (.bipush 60, 2) := by decide +kernel
theorem dX12_text_37 : decode cX12_text 37 = .ok (.if_icmp .ge 22, 3) := by decide +kernel
theorem dX12_text_40 : decode cX12_text 40 = .ok (.aload_n 0, 1) := by decide +kernel
theorem dX12_text_41 : decode cX12_text 41 = .ok (.getfield 29, 3) := by decide +kernel
theorem dX12_text_44 : decode cX12_text 44 = .ok (.bipush 60, 2) := by decide +kernel
theorem dX12_text_46 : decode cX12_text 46 = .ok (.iload_n 1, 1) := by decide +kernel
theorem dX12_text_47 : decode cX12_text 47 = .ok (.imul, 1) := by decide +kernel
theorem dX12_text_48 : decode cX12_text 48 = .ok (.iload_n 3, 1) := by decide +kernel
theorem dX12_text_49 : decode cX12_text 49 = .ok (.iadd, 1) := by decide +kernel
theorem dX12_text_50 : decode cX12_text 50 = .ok (.bipush 32, 2) := by decide +kernel
theorem dX12_text_52 : decode cX12_text 52 = .ok (.iastore, 1) := by decide +kernel
theorem dX12_text_53 : decode cX12_text 53 = .ok (.iinc 3 1, 3) := by decide +kernel
theorem dX12_text_56 : decode cX12_text 56 = .ok (.goto (-22), 3) := by decide +kernel
theorem dX12_text_59 : decode cX12_text 59 = .ok (.iload_n 2, 1) := by decide +kernel
theorem dX12_text_60 : decode cX12_text 60 = .ok (.ireturn, 1) := by decide +kernel
theorem dX12_put_0 : decode cX12_put 0 = .ok (.iload_n 1, 1) := by decide +kernel
theorem dX12_put_1 : decode cX12_put 1 = .ok (.invokestatic 86, 3) := by decide +kernel
theorem dX12_put_4 : decode cX12_put 4 = .ok (.ifCond .ne 5, 3) := by decide +kernel
theorem dX12_put_7 : decode cX12_put 7 = .ok (.iconst (-1), 1) := by decide +kernel
theorem dX12_put_8 : decode cX12_put 8 = .ok (.ireturn, 1) := by decide +kernel
theorem dX12_put_9 : decode cX12_put 9 = .ok (.aload_n 0, 1) := by decide +kernel
theorem dX12_put_10 : decode cX12_put 10 = .ok (.getfield 26, 3) := by decide +kernel
theorem dX12_put_13 : decode cX12_put 13 = .ok (.iload_n 1, 1) := by decide +kernel
theorem dX12_put_14 : decode cX12_put 14 = .ok (.iaload, 1) := by decide +kernel
theorem dX12_put_15 : decode cX12_put 15 = .ok (.ifCond .ge 9, 3) := by decide +kernel
theorem dX12_put_18 : decode cX12_put 18 = .ok (.aload_n 0, 1) := by decide +kernel
theorem dX12_put_19 : decode cX12_put 19 = .ok (.iconst 1, 1) := by decide +kernel
theorem dX12_put_20 : decode cX12_put 20 = .ok (.invokevirtual 67, 3) := by decide +kernel
theorem dX12_put_23 : decode cX12_put 23 = .ok (.ireturn, 1) := by decide +kernel
theorem dX12_put_24 : decode cX12_put 24 = .ok (.iload_n 2, 1) := by decide +kernel
theorem dX12_put_25 : decode cX12_put 25 = .ok (.i2l, 1) := by decide +kernel
theorem dX12_put_26 : decode cX12_put 26 = .ok (.lconst 0, 1) := by decide +kernel
theorem dX12_put_27 : decode cX12_put 27 = .ok (.aload_n 0, 1) := by decide +kernel
theorem dX12_put_28 : decode cX12_put 28 = .ok (.getfield 26, 3) := by decide +kernel
theorem dX12_put_31 : decode cX12_put 31 = .ok (.iload_n 1, 1) := by decide +kernel
theorem dX12_put_32 : decode cX12_put 32 = .ok (.iaload, 1) := by decide +kernel
theorem dX12_put_33 : decode cX12_put 33 = .ok (.iconst 1, 1) := by decide +kernel
theorem dX12_put_34 : decode cX12_put 34 = .ok (.isub, 1) := by decide +kernel
theorem dX12_put_35 : decode cX12_put 35 = .ok (.i2l, 1) := by decide +kernel
theorem dX12_put_36 : decode cX12_put 36 = .ok (.invokestatic 57, 3) := by decide +kernel
theorem dX12_put_39 : decode cX12_put 39 = .ok (.ifCond .ne 9, 3) := by decide +kernel
theorem dX12_put_42 : decode cX12_put 42 = .ok (.aload_n 0, 1) := by decide +kernel
theorem dX12_put_43 : decode cX12_put 43 = .ok (.iconst 2, 1) := by decide +kernel
theorem dX12_put_44 : decode cX12_put 44 = .ok (.invokevirtual 67, 3) := by decide +kernel
theorem dX12_put_47 : decode cX12_put 47 = .ok (.ireturn, 1) := by decide +kernel
theorem dX12_put_48 : decode cX12_put 48 = .ok (.aload_n 0, 1) := by decide +kernel
theorem dX12_put_49 : decode cX12_put 49 = .ok (.getfield 29, 3) := by decide +kernel
theorem dX12_put_52 : decode cX12_put 52 = .ok (.bipush 60, 2) := by decide +kernel
theorem dX12_put_54 : decode cX12_put 54 = .ok (.iload_n 1, 1) := by decide +kernel
theorem dX12_put_55 : decode cX12_put 55 = .ok (.imul, 1) := by decide +kernel
theorem dX12_put_56 : decode cX12_put 56 = .ok (.iload_n 2, 1) := by decide +kernel
theorem dX12_put_57 : decode cX12_put 57 = .ok (.iadd, 1) := by decide +kernel
theorem dX12_put_58 : decode cX12_put 58 = .ok (.iaload, 1) := by decide +kernel
theorem dX12_put_59 : decode cX12_put 59 = .ok (.istore 4, 2) := by decide +kernel
theorem dX12_put_61 : decode cX12_put 61 = .ok (.aload_n 0, 1) := by decide +kernel
theorem dX12_put_62 : decode cX12_put 62 = .ok (.getfield 29, 3) := by decide +kernel
theorem dX12_put_65 : decode cX12_put 65 = .ok (.bipush 60, 2) := by decide +kernel
theorem dX12_put_67 : decode cX12_put 67 = .ok (.iload_n 1, 1) := by decide +kernel
theorem dX12_put_68 : decode cX12_put 68 = .ok (.imul, 1) := by decide +kernel
theorem dX12_put_69 : decode cX12_put 69 = .ok (.iload_n 2, 1) := by decide +kernel
theorem dX12_put_70 : decode cX12_put 70 = .ok (.iadd, 1) := by decide +kernel
theorem dX12_put_71 : decode cX12_put 71 = .ok (.iload_n 3, 1) := by decide +kernel
theorem dX12_put_72 : decode cX12_put 72 = .ok (.i2b, 1) := by decide +kernel
theorem dX12_put_73 : decode cX12_put 73 = .ok (.iastore, 1) := by decide +kernel
theorem dX12_put_74 : decode cX12_put 74 = .ok (.iload 4, 2) := by decide +kernel
theorem dX12_put_76 : decode cX12_put 76 = .ok (.sipush 1000, 3) := by decide +kernel
theorem dX12_put_79 : decode cX12_put 79 = .ok (.iadd, 1) := by decide +kernel
theorem dX12_put_80 : decode cX12_put 80 = .ok (.ireturn, 1) := by decide +kernel
theorem dX12_here_0 : decode cX12_here 0 = .ok (.aload_n 0, 1) := by decide +kernel
theorem dX12_here_1 : decode cX12_here 1 = .ok (.getfield 29, 3) := by decide +kernel
theorem dX12_here_4 : decode cX12_here 4 = .ok (.aload_n 0, 1) := by decide +kernel
theorem dX12_here_5 : decode cX12_here 5 = .ok (.getfield 89, 3) := by decide +kernel
theorem dX12_here_8 : decode cX12_here 8 = .ok (.aload_n 0, 1) := by decide +kernel
theorem dX12_here_9 : decode cX12_here 9 = .ok (.getfield 92, 3) := by decide +kernel
theorem dX12_here_12 : decode cX12_here 12 = .ok (.iadd, 1) := by decide +kernel
theorem dX12_here_13 : decode cX12_here 13 = .ok (.iaload, 1) := by decide +kernel
theorem dX12_here_14 : decode cX12_here 14 = .ok (.ireturn, 1) := by decide +kernel
theorem dX12_skip_0 : decode cX12_skip 0 = .ok (.aload_n 0, 1) := by decide +kernel
theorem dX12_skip_1 : decode cX12_skip 1 = .ok (.getfield 92, 3) := by decide +kernel
theorem dX12_skip_4 : decode cX12_skip 4 = .ok (.aload_n 0, 1) := by decide +kernel
theorem dX12_skip_5 : decode cX12_skip 5 = .ok (.getfield 95, 3) := by decide +kernel
theorem dX12_skip_8 : decode cX12_skip 8 = .ok (.if_icmp .ge 25, 3) := by decide +kernel
theorem dX12_skip_11 : decode cX12_skip 11 = .ok (.aload_n 0, 1) := by decide +kernel
theorem dX12_skip_12 : decode cX12_skip 12 = .ok (.invokevirtual 98, 3) := by decide +kernel
theorem dX12_skip_15 : decode cX12_skip 15 = .ok (.bipush 32, 2) := by decide +kernel
theorem dX12_skip_17 : decode cX12_skip 17 = .ok (.if_icmp .ne 16, 3) := by decide +kernel
theorem dX12_skip_20 : decode cX12_skip 20 = .ok (.aload_n 0, 1) := by decide +kernel
theorem dX12_skip_21 : decode cX12_skip 21 = .ok (.dup, 1) := by decide +kernel
theorem dX12_skip_22 : decode cX12_skip 22 = .ok (.getfield 92, 3) := by decide +kernel
theorem dX12_skip_25 : decode cX12_skip 25 = .ok (.iconst 1, 1) := by decide +kernel
theorem dX12_skip_26 : decode cX12_skip 26 = .ok (.iadd, 1) := by decide +kernel
theorem dX12_skip_27 : decode cX12_skip 27 = .ok (.putfield 92, 3) := by decide +kernel
theorem dX12_skip_30 : decode cX12_skip 30 = .ok (.goto (-30), 3) := by decide +kernel
theorem dX12_skip_33 : decode cX12_skip 33 = .ok (.return_, 1) := by decide +kernel
theorem dX12_figure_0 : decode cX12_figure 0 = .ok (.aload_n 0, 1) := by decide +kernel
theorem dX12_figure_1 : decode cX12_figure 1 = .ok (.getfield 92, 3) := by decide +kernel
theorem dX12_figure_4 : decode cX12_figure 4 = .ok (.aload_n 0, 1) := by decide +kernel
theorem dX12_figure_5 : decode cX12_figure 5 = .ok (.getfield 95, 3) := by decide +kernel
theorem dX12_figure_8 : decode cX12_figure 8 = .ok (.if_icmp .eq 24, 3) := by decide +kernel
theorem dX12_figure_11 : decode cX12_figure 11 = .ok (.aload_n 0, 1) := by decide +kernel
theorem dX12_figure_12 : decode cX12_figure 12 = .ok (.invokevirtual 98, 3) := by decide +kernel
theorem dX12_figure_15 : decode cX12_figure 15 = .ok (.i2l, 1) := by decide +kernel
theorem dX12_figure_16 : decode cX12_figure 16 = .ok (.bipush 48, 2) := by decide +kernel
theorem dX12_figure_18 : decode cX12_figure 18 = .ok (.iload_n 1, 1) := by decide +kernel
theorem dX12_figure_19 : decode cX12_figure 19 = .ok (.iadd, 1) := by decide +kernel
theorem dX12_figure_20 : decode cX12_figure 20 = .ok (.i2l, 1) := by decide +kernel
theorem dX12_figure_21 : decode cX12_figure 21 = .ok (.bipush 48, 2) := by decide +kernel
theorem dX12_figure_23 : decode cX12_figure 23 = .ok (.iload_n 2, 1) := by decide +kernel
theorem dX12_figure_24 : decode cX12_figure 24 = .ok (.iadd, 1) := by decide +kernel
theorem dX12_figure_25 : decode cX12_figure 25 = .ok (.i2l, 1) := by decide +kernel
theorem dX12_figure_26 : decode cX12_figure 26 = .ok (.invokestatic 57, 3) := by decide +kernel
theorem dX12_figure_29 : decode cX12_figure 29 = .ok (.ifCond .ne 6, 3) := by decide +kernel
theorem dX12_figure_32 : decode cX12_figure 32 = .ok (.bipush (-9), 2) := by decide +kernel
theorem dX12_figure_34 : decode cX12_figure 34 = .ok (.ireturn, 1) := by decide +kernel
theorem dX12_figure_35 : decode cX12_figure 35 = .ok (.aload_n 0, 1) := by decide +kernel
theorem dX12_figure_36 : decode cX12_figure 36 = .ok (.dup, 1) := by decide +kernel
theorem dX12_figure_37 : decode cX12_figure 37 = .ok (.getfield 92, 3) := by decide +kernel
theorem dX12_figure_40 : decode cX12_figure 40 = .ok (.iconst 1, 1) := by decide +kernel
theorem dX12_figure_41 : decode cX12_figure 41 = .ok (.iadd, 1) := by decide +kernel
theorem dX12_figure_42 : decode cX12_figure 42 = .ok (.putfield 92, 3) := by decide +kernel
theorem dX12_figure_45 : decode cX12_figure 45 = .ok (.aload_n 0, 1) := by decide +kernel
theorem dX12_figure_46 : decode cX12_figure 46 = .ok (.getfield 29, 3) := by decide +kernel
theorem dX12_figure_49 : decode cX12_figure 49 = .ok (.aload_n 0, 1) := by decide +kernel
theorem dX12_figure_50 : decode cX12_figure 50 = .ok (.getfield 89, 3) := by decide +kernel
theorem dX12_figure_53 : decode cX12_figure 53 = .ok (.aload_n 0, 1) := by decide +kernel
theorem dX12_figure_54 : decode cX12_figure 54 = .ok (.getfield 92, 3) := by decide +kernel
theorem dX12_figure_57 : decode cX12_figure 57 = .ok (.iadd, 1) := by decide +kernel
theorem dX12_figure_58 : decode cX12_figure 58 = .ok (.iconst 1, 1) := by decide +kernel
theorem dX12_figure_59 : decode cX12_figure 59 = .ok (.isub, 1) := by decide +kernel
theorem dX12_figure_60 : decode cX12_figure 60 = .ok (.iaload, 1) := by decide +kernel
theorem dX12_figure_61 : decode cX12_figure 61 = .ok (.bipush 48, 2) := by decide +kernel
theorem dX12_figure_63 : decode cX12_figure 63 = .ok (.isub, 1) := by decide +kernel
theorem dX12_figure_64 : decode cX12_figure 64 = .ok (.ireturn, 1) := by decide +kernel
theorem dX12_readsLock_0 : decode cX12_readsLock 0 = .ok (.aload_n 0, 1) := by decide +kernel
theorem dX12_readsLock_1 : decode cX12_readsLock 1 = .ok (.invokevirtual 102, 3) := by decide +kernel
theorem dX12_readsLock_4 : decode cX12_readsLock 4 = .ok (.aload_n 0, 1) := by decide +kernel
theorem dX12_readsLock_5 : decode cX12_readsLock 5 = .ok (.getfield 92, 3) := by decide +kernel
theorem dX12_readsLock_8 : decode cX12_readsLock 8 = .ok (.aload_n 0, 1) := by decide +kernel
theorem dX12_readsLock_9 : decode cX12_readsLock 9 = .ok (.getfield 95, 3) := by decide +kernel
theorem dX12_readsLock_12 : decode cX12_readsLock 12 = .ok (.if_icmp .eq 12, 3) := by decide +kernel
theorem dX12_readsLock_15 : decode cX12_readsLock 15 = .ok (.aload_n 0, 1) := by decide +kernel
theorem dX12_readsLock_16 : decode cX12_readsLock 16 = .ok (.invokevirtual 98, 3) := by decide +kernel
theorem dX12_readsLock_19 : decode cX12_readsLock 19 = .ok (.bipush 119, 2) := by decide +kernel
theorem dX12_readsLock_21 : decode cX12_readsLock 21 = .ok (.if_icmp .eq 5, 3) := by decide +kernel
theorem dX12_readsLock_24 : decode cX12_readsLock 24 = .ok (.iconst 0, 1) := by decide +kernel
theorem dX12_readsLock_25 : decode cX12_readsLock 25 = .ok (.ireturn, 1) := by decide +kernel
theorem dX12_readsLock_26 : decode cX12_readsLock 26 = .ok (.aload_n 0, 1) := by decide +kernel
theorem dX12_readsLock_27 : decode cX12_readsLock 27 = .ok (.dup, 1) := by decide +kernel
theorem dX12_readsLock_28 : decode cX12_readsLock 28 = .ok (.getfield 92, 3) := by decide +kernel
theorem dX12_readsLock_31 : decode cX12_readsLock 31 = .ok (.iconst 1, 1) := by decide +kernel
theorem dX12_readsLock_32 : decode cX12_readsLock 32 = .ok (.iadd, 1) := by decide +kernel
theorem dX12_readsLock_33 : decode cX12_readsLock 33 = .ok (.putfield 92, 3) := by decide +kernel
theorem dX12_readsLock_36 : decode cX12_readsLock 36 = .ok (.aload_n 0, 1) := by decide +kernel
theorem dX12_readsLock_37 : decode cX12_readsLock 37 = .ok (.aload_n 0, 1) := by decide +kernel
theorem dX12_readsLock_38 : decode cX12_readsLock 38 = .ok (.iconst 1, 1) := by decide +kernel
theorem dX12_readsLock_39 : decode cX12_readsLock 39 = .ok (.iconst 3, 1) := by decide +kernel
theorem dX12_readsLock_40 : decode cX12_readsLock 40 = .ok (.invokevirtual 105, 3) := by decide +kernel
theorem dX12_readsLock_43 : decode cX12_readsLock 43 = .ok (.putfield 108, 3) := by decide +kernel
theorem dX12_readsLock_46 : decode cX12_readsLock 46 = .ok (.aload_n 0, 1) := by decide +kernel
theorem dX12_readsLock_47 : decode cX12_readsLock 47 = .ok (.aload_n 0, 1) := by decide +kernel
theorem dX12_readsLock_48 : decode cX12_readsLock 48 = .ok (.getfield 108, 3) := by decide +kernel
theorem dX12_readsLock_51 : decode cX12_readsLock 51 = .ok (.bipush (-9), 2) := by decide +kernel
theorem dX12_readsLock_53 : decode cX12_readsLock 53 = .ok (.if_icmp .ne 8, 3) := by decide +kernel
theorem dX12_readsLock_56 : decode cX12_readsLock 56 = .ok (.bipush (-9), 2) := by decide +kernel
theorem dX12_readsLock_58 : decode cX12_readsLock 58 = .ok (.goto 10, 3) := by decide +kernel
theorem dX12_readsLock_61 : decode cX12_readsLock 61 = .ok (.aload_n 0, 1) := by decide +kernel
theorem dX12_readsLock_62 : decode cX12_readsLock 62 = .ok (.iconst 4, 1) := by decide +kernel
theorem dX12_readsLock_63 : decode cX12_readsLock 63 = .ok (.bipush 6, 2) := by decide +kernel
theorem dX12_readsLock_65 : decode cX12_readsLock 65 = .ok (.invokevirtual 105, 3) := by decide +kernel
theorem dX12_readsLock_68 : decode cX12_readsLock 68 = .ok (.putfield 111, 3) := by decide +kernel
theorem dX12_readsLock_71 : decode cX12_readsLock 71 = .ok (.aload_n 0, 1) := by decide +kernel
theorem dX12_readsLock_72 : decode cX12_readsLock 72 = .ok (.getfield 111, 3) := by decide +kernel
theorem dX12_readsLock_75 : decode cX12_readsLock 75 = .ok (.bipush (-9), 2) := by decide +kernel
theorem dX12_readsLock_77 : decode cX12_readsLock 77 = .ok (.if_icmp .eq 7, 3) := by decide +kernel
theorem dX12_readsLock_80 : decode cX12_readsLock 80 = .ok (.iconst 1, 1) := by decide +kernel
theorem dX12_readsLock_81 : decode cX12_readsLock 81 = .ok (.goto 4, 3) := by decide +kernel
theorem dX12_readsLock_84 : decode cX12_readsLock 84 = .ok (.iconst 0, 1) := by decide +kernel
theorem dX12_readsLock_85 : decode cX12_readsLock 85 = .ok (.ireturn, 1) := by decide +kernel
theorem dX12_kindOfLetter_0 : decode cX12_kindOfLetter 0 = .ok (.iload_n 0, 1) := by decide +kernel
theorem dX12_kindOfLetter_1 : decode cX12_kindOfLetter 1 = .ok (.bipush 112, 2) := by decide +kernel
theorem dX12_kindOfLetter_3 : decode cX12_kindOfLetter 3 = .ok (.if_icmp .ne 7, 3) := by decide +kernel
theorem dX12_kindOfLetter_6 : decode cX12_kindOfLetter 6 = .ok (.iconst 0, 1) := by decide +kernel
theorem dX12_kindOfLetter_7 : decode cX12_kindOfLetter 7 = .ok (.goto 55, 3) := by decide +kernel
theorem dX12_kindOfLetter_10 : decode cX12_kindOfLetter 10 = .ok (.iload_n 0, 1) := by decide +kernel
theorem dX12_kindOfLetter_11 : decode cX12_kindOfLetter 11 = .ok (.bipush 101, 2) := by decide +kernel
theorem dX12_kindOfLetter_13 : decode cX12_kindOfLetter 13 = .ok (.if_icmp .ne 7, 3) := by decide +kernel
theorem dX12_kindOfLetter_16 : decode cX12_kindOfLetter 16 = .ok (.iconst 1, 1) := by decide +kernel
theorem dX12_kindOfLetter_17 : decode cX12_kindOfLetter 17 = .ok (.goto 45, 3) := by decide +kernel
theorem dX12_kindOfLetter_20 : decode cX12_kindOfLetter 20 = .ok (.iload_n 0, 1) := by decide +kernel
theorem dX12_kindOfLetter_21 : decode cX12_kindOfLetter 21 = .ok (.bipush 97, 2) := by decide +kernel
theorem dX12_kindOfLetter_23 : decode cX12_kindOfLetter 23 = .ok (.if_icmp .ne 7, 3) := by decide +kernel
theorem dX12_kindOfLetter_26 : decode cX12_kindOfLetter 26 = .ok (.iconst 2, 1) := by decide +kernel
theorem dX12_kindOfLetter_27 : decode cX12_kindOfLetter 27 = .ok (.goto 35, 3) := by decide +kernel
theorem dX12_kindOfLetter_30 : decode cX12_kindOfLetter 30 = .ok (.iload_n 0, 1) := by decide +kernel
theorem dX12_kindOfLetter_31 : decode cX12_kindOfLetter 31 = .ok (.bipush 98, 2) := by decide +kernel
theorem dX12_kindOfLetter_33 : decode cX12_kindOfLetter 33 = .ok (.if_icmp .ne 7, 3) := by decide +kernel
theorem dX12_kindOfLetter_36 : decode cX12_kindOfLetter 36 = .ok (.iconst 3, 1) := by decide +kernel
theorem dX12_kindOfLetter_37 : decode cX12_kindOfLetter 37 = .ok (.goto 25, 3) := by decide +kernel
theorem dX12_kindOfLetter_40 : decode cX12_kindOfLetter 40 = .ok (.iload_n 0, 1) := by decide +kernel
theorem dX12_kindOfLetter_41 : decode cX12_kindOfLetter 41 = .ok (.bipush 111, 2) := by decide +kernel
theorem dX12_kindOfLetter_43 : decode cX12_kindOfLetter 43 = .ok (.if_icmp .ne 7, 3) := by decide +kernel
theorem dX12_kindOfLetter_46 : decode cX12_kindOfLetter 46 = .ok (.iconst 4, 1) := by decide +kernel
theorem dX12_kindOfLetter_47 : decode cX12_kindOfLetter 47 = .ok (.goto 15, 3) := by decide +kernel
theorem dX12_kindOfLetter_50 : decode cX12_kindOfLetter 50 = .ok (.iload_n 0, 1) := by decide +kernel
theorem dX12_kindOfLetter_51 : decode cX12_kindOfLetter 51 = .ok (.bipush 108, 2) := by decide +kernel
theorem dX12_kindOfLetter_53 : decode cX12_kindOfLetter 53 = .ok (.if_icmp .ne 7, 3) := by decide +kernel
theorem dX12_kindOfLetter_56 : decode cX12_kindOfLetter 56 = .ok (.iconst 5, 1) := by decide +kernel
theorem dX12_kindOfLetter_57 : decode cX12_kindOfLetter 57 = .ok (.goto 5, 3) := by decide +kernel
theorem dX12_kindOfLetter_60 : decode cX12_kindOfLetter 60 = .ok (.bipush (-9), 2) := by decide +kernel
theorem dX12_kindOfLetter_62 : decode cX12_kindOfLetter 62 = .ok (.ireturn, 1) := by decide +kernel
theorem dX12_readsPerson_0 : decode cX12_readsPerson 0 = .ok (.aload_n 0, 1) := by decide +kernel
theorem dX12_readsPerson_1 : decode cX12_readsPerson 1 = .ok (.invokevirtual 98, 3) := by decide +kernel
theorem dX12_readsPerson_4 : decode cX12_readsPerson 4 = .ok (.invokestatic 114, 3) := by decide +kernel
theorem dX12_readsPerson_7 : decode cX12_readsPerson 7 = .ok (.istore_n 1, 1) := by decide +kernel
theorem dX12_readsPerson_8 : decode cX12_readsPerson 8 = .ok (.iload_n 1, 1) := by decide +kernel
theorem dX12_readsPerson_9 : decode cX12_readsPerson 9 = .ok (.bipush (-9), 2) := by decide +kernel
theorem dX12_readsPerson_11 : decode cX12_readsPerson 11 = .ok (.if_icmp .eq 11, 3) := by decide +kernel
theorem dX12_readsPerson_14 : decode cX12_readsPerson 14 = .ok (.aload_n 0, 1) := by decide +kernel
theorem dX12_readsPerson_15 : decode cX12_readsPerson 15 = .ok (.getfield 117, 3) := by decide +kernel
theorem dX12_readsPerson_18 : decode cX12_readsPerson 18 = .ok (.iconst 5, 1) := by decide +kernel
theorem dX12_readsPerson_19 : decode cX12_readsPerson 19 = .ok (.if_icmp .ne 5, 3) := by decide +kernel
theorem dX12_readsPerson_22 : decode cX12_readsPerson 22 = .ok (.iconst 0, 1) := by decide +kernel
theorem dX12_readsPerson_23 : decode cX12_readsPerson 23 = .ok (.ireturn, 1) := by decide +kernel
theorem dX12_readsPerson_24 : decode cX12_readsPerson 24 = .ok (.aload_n 0, 1) := by decide +kernel
theorem dX12_readsPerson_25 : decode cX12_readsPerson 25 = .ok (.dup, 1) := by decide +kernel
theorem dX12_readsPerson_26 : decode cX12_readsPerson 26 = .ok (.getfield 92, 3) := by decide +kernel
theorem dX12_readsPerson_29 : decode cX12_readsPerson 29 = .ok (.iconst 1, 1) := by decide +kernel
theorem dX12_readsPerson_30 : decode cX12_readsPerson 30 = .ok (.iadd, 1) := by decide +kernel
theorem dX12_readsPerson_31 : decode cX12_readsPerson 31 = .ok (.putfield 92, 3) := by decide +kernel
theorem dX12_readsPerson_34 : decode cX12_readsPerson 34 = .ok (.aload_n 0, 1) := by decide +kernel
theorem dX12_readsPerson_35 : decode cX12_readsPerson 35 = .ok (.iconst 1, 1) := by decide +kernel
theorem dX12_readsPerson_36 : decode cX12_readsPerson 36 = .ok (.iconst 3, 1) := by decide +kernel
theorem dX12_readsPerson_37 : decode cX12_readsPerson 37 = .ok (.invokevirtual 105, 3) := by decide +kernel
theorem dX12_readsPerson_40 : decode cX12_readsPerson 40 = .ok (.istore_n 2, 1) := by decide +kernel
theorem dX12_readsPerson_41 : decode cX12_readsPerson 41 = .ok (.iload_n 2, 1) := by decide +kernel
theorem dX12_readsPerson_42 : decode cX12_readsPerson 42 = .ok (.bipush (-9), 2) := by decide +kernel
theorem dX12_readsPerson_44 : decode cX12_readsPerson 44 = .ok (.if_icmp .ne 5, 3) := by decide +kernel
theorem dX12_readsPerson_47 : decode cX12_readsPerson 47 = .ok (.iconst 0, 1) := by decide +kernel
theorem dX12_readsPerson_48 : decode cX12_readsPerson 48 = .ok (.ireturn, 1) := by decide +kernel
theorem dX12_readsPerson_49 : decode cX12_readsPerson 49 = .ok (.aload_n 0, 1) := by decide +kernel
theorem dX12_readsPerson_50 : decode cX12_readsPerson 50 = .ok (.getfield 39, 3) := by decide +kernel
theorem dX12_readsPerson_53 : decode cX12_readsPerson 53 = .ok (.iconst 2, 1) := by decide +kernel
theorem dX12_readsPerson_54 : decode cX12_readsPerson 54 = .ok (.aload_n 0, 1) := by decide +kernel
theorem dX12_readsPerson_55 : decode cX12_readsPerson 55 = .ok (.getfield 117, 3) := by decide +kernel
theorem dX12_readsPerson_58 : decode cX12_readsPerson 58 = .ok (.imul, 1) := by decide +kernel
theorem dX12_readsPerson_59 : decode cX12_readsPerson 59 = .ok (.iload_n 1, 1) := by decide +kernel
theorem dX12_readsPerson_60 : decode cX12_readsPerson 60 = .ok (.iastore, 1) := by decide +kernel
theorem dX12_readsPerson_61 : decode cX12_readsPerson 61 = .ok (.aload_n 0, 1) := by decide +kernel
theorem dX12_readsPerson_62 : decode cX12_readsPerson 62 = .ok (.getfield 39, 3) := by decide +kernel
theorem dX12_readsPerson_65 : decode cX12_readsPerson 65 = .ok (.iconst 2, 1) := by decide +kernel
theorem dX12_readsPerson_66 : decode cX12_readsPerson 66 = .ok (.aload_n 0, 1) := by decide +kernel
theorem dX12_readsPerson_67 : decode cX12_readsPerson 67 = .ok (.getfield 117, 3) := by decide +kernel
theorem dX12_readsPerson_70 : decode cX12_readsPerson 70 = .ok (.imul, 1) := by decide +kernel
theorem dX12_readsPerson_71 : decode cX12_readsPerson 71 = .ok (.iconst 1, 1) := by decide +kernel
theorem dX12_readsPerson_72 : decode cX12_readsPerson 72 = .ok (.iadd, 1) := by decide +kernel
theorem dX12_readsPerson_73 : decode cX12_readsPerson 73 = .ok (.iload_n 2, 1) := by decide +kernel
theorem dX12_readsPerson_74 : decode cX12_readsPerson 74 = .ok (.iastore, 1) := by decide +kernel
theorem dX12_readsPerson_75 : decode cX12_readsPerson 75 = .ok (.aload_n 0, 1) := by decide +kernel
theorem dX12_readsPerson_76 : decode cX12_readsPerson 76 = .ok (.dup, 1) := by decide +kernel
theorem dX12_readsPerson_77 : decode cX12_readsPerson 77 = .ok (.getfield 117, 3) := by decide +kernel
theorem dX12_readsPerson_80 : decode cX12_readsPerson 80 = .ok (.iconst 1, 1) := by decide +kernel
theorem dX12_readsPerson_81 : decode cX12_readsPerson 81 = .ok (.iadd, 1) := by decide +kernel
theorem dX12_readsPerson_82 : decode cX12_readsPerson 82 = .ok (.putfield 117, 3) := by decide +kernel
theorem dX12_readsPerson_85 : decode cX12_readsPerson 85 = .ok (.iconst 1, 1) := by decide +kernel
theorem dX12_readsPerson_86 : decode cX12_readsPerson 86 = .ok (.ireturn, 1) := by decide +kernel
theorem dX12_faultOf_0 : decode cX12_faultOf 0 = .ok (.aload_n 0, 1) := by decide +kernel
theorem dX12_faultOf_1 : decode cX12_faultOf 1 = .ok (.bipush 60, 2) := by decide +kernel
theorem dX12_faultOf_3 : decode cX12_faultOf 3 = .ok (.iload_n 1, 1) := by decide +kernel
theorem dX12_faultOf_4 : decode cX12_faultOf 4 = .ok (.imul, 1) := by decide +kernel
theorem dX12_faultOf_5 : decode cX12_faultOf 5 = .ok (.putfield 89, 3) := by decide +kernel
theorem dX12_faultOf_8 : decode cX12_faultOf 8 = .ok (.aload_n 0, 1) := by decide +kernel
theorem dX12_faultOf_9 : decode cX12_faultOf 9 = .ok (.iconst 0, 1) := by decide +kernel
theorem dX12_faultOf_10 : decode cX12_faultOf 10 = .ok (.putfield 92, 3) := by decide +kernel
theorem dX12_faultOf_13 : decode cX12_faultOf 13 = .ok (.aload_n 0, 1) := by decide +kernel
theorem dX12_faultOf_14 : decode cX12_faultOf 14 = .ok (.aload_n 0, 1) := by decide +kernel
theorem dX12_faultOf_15 : decode cX12_faultOf 15 = .ok (.getfield 26, 3) := by decide +kernel
theorem dX12_faultOf_18 : decode cX12_faultOf 18 = .ok (.iload_n 1, 1) := by decide +kernel
theorem dX12_faultOf_19 : decode cX12_faultOf 19 = .ok (.iaload, 1) := by decide +kernel
theorem dX12_faultOf_20 : decode cX12_faultOf 20 = .ok (.putfield 95, 3) := by decide +kernel
theorem dX12_faultOf_23 : decode cX12_faultOf 23 = .ok (.aload_n 0, 1) := by decide +kernel
theorem dX12_faultOf_24 : decode cX12_faultOf 24 = .ok (.iconst 0, 1) := by decide +kernel
theorem dX12_faultOf_25 : decode cX12_faultOf 25 = .ok (.putfield 117, 3) := by decide +kernel
theorem dX12_faultOf_28 : decode cX12_faultOf 28 = .ok (.aload_n 0, 1) := by decide +kernel
theorem dX12_faultOf_29 : decode cX12_faultOf 29 = .ok (.invokevirtual 120, 3) := by decide +kernel
theorem dX12_faultOf_32 : decode cX12_faultOf 32 = .ok (.istore_n 2, 1) := by decide +kernel
theorem dX12_faultOf_33 : decode cX12_faultOf 33 = .ok (.iload_n 2, 1) := by decide +kernel
theorem dX12_faultOf_34 : decode cX12_faultOf 34 = .ok (.ifCond .eq 7, 3) := by decide +kernel
theorem dX12_faultOf_37 : decode cX12_faultOf 37 = .ok (.aload_n 0, 1) := by decide +kernel
theorem dX12_faultOf_38 : decode cX12_faultOf 38 = .ok (.invokevirtual 102, 3) := by decide +kernel
theorem dX12_faultOf_41 : decode cX12_faultOf 41 = .ok (.iload_n 2, 1) := by decide +kernel
theorem dX12_faultOf_42 : decode cX12_faultOf 42 = .ok (.ifCond .eq 30, 3) := by decide +kernel
theorem dX12_faultOf_45 : decode cX12_faultOf 45 = .ok (.aload_n 0, 1) := by decide +kernel
theorem dX12_faultOf_46 : decode cX12_faultOf 46 = .ok (.getfield 92, 3) := by decide +kernel
theorem dX12_faultOf_49 : decode cX12_faultOf 49 = .ok (.aload_n 0, 1) := by decide +kernel
theorem dX12_faultOf_50 : decode cX12_faultOf 50 = .ok (.getfield 95, 3) := by decide +kernel
theorem dX12_faultOf_53 : decode cX12_faultOf 53 = .ok (.if_icmp .ge 19, 3) := by decide +kernel
theorem dX12_faultOf_56 : decode cX12_faultOf 56 = .ok (.aload_n 0, 1) := by decide +kernel
theorem dX12_faultOf_57 : decode cX12_faultOf 57 = .ok (.invokevirtual 124, 3) := by decide +kernel
theorem dX12_faultOf_60 : decode cX12_faultOf 60 = .ok (.istore_n 2, 1) := by decide +kernel
theorem dX12_faultOf_61 : decode cX12_faultOf 61 = .ok (.iload_n 2, 1) := by decide +kernel
theorem dX12_faultOf_62 : decode cX12_faultOf 62 = .ok (.ifCond .eq (-21), 3) := by decide +kernel
theorem dX12_faultOf_65 : decode cX12_faultOf 65 = .ok (.aload_n 0, 1) := by decide +kernel
theorem dX12_faultOf_66 : decode cX12_faultOf 66 = .ok (.invokevirtual 102, 3) := by decide +kernel
theorem dX12_faultOf_69 : decode cX12_faultOf 69 = .ok (.goto (-28), 3) := by decide +kernel
theorem dX12_faultOf_72 : decode cX12_faultOf 72 = .ok (.iload_n 2, 1) := by decide +kernel
theorem dX12_faultOf_73 : decode cX12_faultOf 73 = .ok (.ifCond .eq 15, 3) := by decide +kernel
theorem dX12_faultOf_76 : decode cX12_faultOf 76 = .ok (.aload_n 0, 1) := by decide +kernel
theorem dX12_faultOf_77 : decode cX12_faultOf 77 = .ok (.getfield 117, 3) := by decide +kernel
theorem dX12_faultOf_80 : decode cX12_faultOf 80 = .ok (.ifCond .le 8, 3) := by decide +kernel
theorem dX12_faultOf_83 : decode cX12_faultOf 83 = .ok (.bipush (-9), 2) := by decide +kernel
theorem dX12_faultOf_85 : decode cX12_faultOf 85 = .ok (.goto 7, 3) := by decide +kernel
theorem dX12_faultOf_88 : decode cX12_faultOf 88 = .ok (.aload_n 0, 1) := by decide +kernel
theorem dX12_faultOf_89 : decode cX12_faultOf 89 = .ok (.getfield 92, 3) := by decide +kernel
theorem dX12_faultOf_92 : decode cX12_faultOf 92 = .ok (.ireturn, 1) := by decide +kernel
theorem dX12_fault_0 : decode cX12_fault 0 = .ok (.iload_n 1, 1) := by decide +kernel
theorem dX12_fault_1 : decode cX12_fault 1 = .ok (.invokestatic 86, 3) := by decide +kernel
theorem dX12_fault_4 : decode cX12_fault 4 = .ok (.ifCond .ne 5, 3) := by decide +kernel
theorem dX12_fault_7 : decode cX12_fault 7 = .ok (.iconst (-1), 1) := by decide +kernel
theorem dX12_fault_8 : decode cX12_fault 8 = .ok (.ireturn, 1) := by decide +kernel
theorem dX12_fault_9 : decode cX12_fault 9 = .ok (.aload_n 0, 1) := by decide +kernel
theorem dX12_fault_10 : decode cX12_fault 10 = .ok (.getfield 26, 3) := by decide +kernel
theorem dX12_fault_13 : decode cX12_fault 13 = .ok (.iload_n 1, 1) := by decide +kernel
theorem dX12_fault_14 : decode cX12_fault 14 = .ok (.iaload, 1) := by decide +kernel
theorem dX12_fault_15 : decode cX12_fault 15 = .ok (.ifCond .ge 11, 3) := by decide +kernel
theorem dX12_fault_18 : decode cX12_fault 18 = .ok (.aload_n 0, 1) := by decide +kernel
theorem dX12_fault_19 : decode cX12_fault 19 = .ok (.iconst 1, 1) := by decide +kernel
theorem dX12_fault_20 : decode cX12_fault 20 = .ok (.invokevirtual 67, 3) := by decide +kernel
theorem dX12_fault_23 : decode cX12_fault 23 = .ok (.goto 8, 3) := by decide +kernel
theorem dX12_fault_26 : decode cX12_fault 26 = .ok (.aload_n 0, 1) := by decide +kernel
theorem dX12_fault_27 : decode cX12_fault 27 = .ok (.iload_n 1, 1) := by decide +kernel
theorem dX12_fault_28 : decode cX12_fault 28 = .ok (.invokevirtual 127, 3) := by decide +kernel
theorem dX12_fault_31 : decode cX12_fault 31 = .ok (.ireturn, 1) := by decide +kernel
theorem dX12_power_0 : decode cX12_power 0 = .ok (.iconst 1, 1) := by decide +kernel
theorem dX12_power_1 : decode cX12_power 1 = .ok (.istore_n 2, 1) := by decide +kernel
theorem dX12_power_2 : decode cX12_power 2 = .ok (.iconst 0, 1) := by decide +kernel
theorem dX12_power_3 : decode cX12_power 3 = .ok (.istore_n 3, 1) := by decide +kernel
theorem dX12_power_4 : decode cX12_power 4 = .ok (.iload_n 3, 1) := by decide +kernel
theorem dX12_power_5 : decode cX12_power 5 = .ok (.iload_n 1, 1) := by decide +kernel
theorem dX12_power_6 : decode cX12_power 6 = .ok (.if_icmp .ge 13, 3) := by decide +kernel
theorem dX12_power_9 : decode cX12_power 9 = .ok (.iload_n 2, 1) := by decide +kernel
theorem dX12_power_10 : decode cX12_power 10 = .ok (.iload_n 0, 1) := by decide +kernel
theorem dX12_power_11 : decode cX12_power 11 = .ok (.imul, 1) := by decide +kernel
theorem dX12_power_12 : decode cX12_power 12 = .ok (.istore_n 2, 1) := by decide +kernel
theorem dX12_power_13 : decode cX12_power 13 = .ok (.iinc 3 1, 3) := by decide +kernel
theorem dX12_power_16 : decode cX12_power 16 = .ok (.goto (-12), 3) := by decide +kernel
theorem dX12_power_19 : decode cX12_power 19 = .ok (.iload_n 2, 1) := by decide +kernel
theorem dX12_power_20 : decode cX12_power 20 = .ok (.ireturn, 1) := by decide +kernel
theorem dX12_shed_0 : decode cX12_shed 0 = .ok (.iload_n 1, 1) := by decide +kernel
theorem dX12_shed_1 : decode cX12_shed 1 = .ok (.invokestatic 86, 3) := by decide +kernel
theorem dX12_shed_4 : decode cX12_shed 4 = .ok (.ifCond .ne 5, 3) := by decide +kernel
theorem dX12_shed_7 : decode cX12_shed 7 = .ok (.iconst (-1), 1) := by decide +kernel
theorem dX12_shed_8 : decode cX12_shed 8 = .ok (.ireturn, 1) := by decide +kernel
theorem dX12_shed_9 : decode cX12_shed 9 = .ok (.aload_n 0, 1) := by decide +kernel
theorem dX12_shed_10 : decode cX12_shed 10 = .ok (.getfield 26, 3) := by decide +kernel
theorem dX12_shed_13 : decode cX12_shed 13 = .ok (.iload_n 1, 1) := by decide +kernel
theorem dX12_shed_14 : decode cX12_shed 14 = .ok (.iaload, 1) := by decide +kernel
theorem dX12_shed_15 : decode cX12_shed 15 = .ok (.ifCond .ge 9, 3) := by decide +kernel
theorem dX12_shed_18 : decode cX12_shed 18 = .ok (.aload_n 0, 1) := by decide +kernel
theorem dX12_shed_19 : decode cX12_shed 19 = .ok (.iconst 1, 1) := by decide +kernel
theorem dX12_shed_20 : decode cX12_shed 20 = .ok (.invokevirtual 67, 3) := by decide +kernel
theorem dX12_shed_23 : decode cX12_shed 23 = .ok (.ireturn, 1) := by decide +kernel
theorem dX12_shed_24 : decode cX12_shed 24 = .ok (.aload_n 0, 1) := by decide +kernel
theorem dX12_shed_25 : decode cX12_shed 25 = .ok (.iload_n 1, 1) := by decide +kernel
theorem dX12_shed_26 : decode cX12_shed 26 = .ok (.invokevirtual 127, 3) := by decide +kernel
theorem dX12_shed_29 : decode cX12_shed 29 = .ok (.bipush (-9), 2) := by decide +kernel
theorem dX12_shed_31 : decode cX12_shed 31 = .ok (.if_icmp .eq 6, 3) := by decide +kernel
theorem dX12_shed_34 : decode cX12_shed 34 = .ok (.bipush (-4), 2) := by decide +kernel
theorem dX12_shed_36 : decode cX12_shed 36 = .ok (.ireturn, 1) := by decide +kernel
theorem dX12_shed_37 : decode cX12_shed 37 = .ok (.aload_n 0, 1) := by decide +kernel
theorem dX12_shed_38 : decode cX12_shed 38 = .ok (.aload_n 0, 1) := by decide +kernel
theorem dX12_shed_39 : decode cX12_shed 39 = .ok (.getfield 108, 3) := by decide +kernel
theorem dX12_shed_42 : decode cX12_shed 42 = .ok (.putfield 130, 3) := by decide +kernel
theorem dX12_shed_45 : decode cX12_shed 45 = .ok (.aload_n 0, 1) := by decide +kernel
theorem dX12_shed_46 : decode cX12_shed 46 = .ok (.aload_n 0, 1) := by decide +kernel
theorem dX12_shed_47 : decode cX12_shed 47 = .ok (.getfield 111, 3) := by decide +kernel
theorem dX12_shed_50 : decode cX12_shed 50 = .ok (.putfield 133, 3) := by decide +kernel
theorem dX12_shed_53 : decode cX12_shed 53 = .ok (.aload_n 0, 1) := by decide +kernel
theorem dX12_shed_54 : decode cX12_shed 54 = .ok (.aload_n 0, 1) := by decide +kernel
theorem dX12_shed_55 : decode cX12_shed 55 = .ok (.getfield 133, 3) := by decide +kernel
theorem dX12_shed_58 : decode cX12_shed 58 = .ok (.aload_n 0, 1) := by decide +kernel
theorem dX12_shed_59 : decode cX12_shed 59 = .ok (.getfield 130, 3) := by decide +kernel
theorem dX12_shed_62 : decode cX12_shed 62 = .ok (.invokestatic 136, 3) := by decide +kernel
theorem dX12_shed_65 : decode cX12_shed 65 = .ok (.putfield 139, 3) := by decide +kernel
theorem dX12_shed_68 : decode cX12_shed 68 = .ok (.aload_n 0, 1) := by decide +kernel
theorem dX12_shed_69 : decode cX12_shed 69 = .ok (.aload_n 0, 1) := by decide +kernel
theorem dX12_shed_70 : decode cX12_shed 70 = .ok (.getfield 117, 3) := by decide +kernel
theorem dX12_shed_73 : decode cX12_shed 73 = .ok (.putfield 142, 3) := by decide +kernel
theorem dX12_shed_76 : decode cX12_shed 76 = .ok (.iconst 0, 1) := by decide +kernel
theorem dX12_shed_77 : decode cX12_shed 77 = .ok (.istore_n 2, 1) := by decide +kernel
theorem dX12_shed_78 : decode cX12_shed 78 = .ok (.iload_n 2, 1) := by decide +kernel
theorem dX12_shed_79 : decode cX12_shed 79 = .ok (.bipush 38, 2) := by decide +kernel
theorem dX12_shed_81 : decode cX12_shed 81 = .ok (.if_icmp .ge 16, 3) := by decide +kernel
theorem dX12_shed_84 : decode cX12_shed 84 = .ok (.aload_n 0, 1) := by decide +kernel
theorem dX12_shed_85 : decode cX12_shed 85 = .ok (.getfield 7, 3) := by decide +kernel
theorem dX12_shed_88 : decode cX12_shed 88 = .ok (.iload_n 2, 1) := by decide +kernel
theorem dX12_shed_89 : decode cX12_shed 89 = .ok (.iconst 0, 1) := by decide +kernel
theorem dX12_shed_90 : decode cX12_shed 90 = .ok (.iastore, 1) := by decide +kernel
theorem dX12_shed_91 : decode cX12_shed 91 = .ok (.iinc 2 1, 3) := by decide +kernel
theorem dX12_shed_94 : decode cX12_shed 94 = .ok (.goto (-16), 3) := by decide +kernel
theorem dX12_shed_97 : decode cX12_shed 97 = .ok (.iconst 0, 1) := by decide +kernel
theorem dX12_shed_98 : decode cX12_shed 98 = .ok (.istore_n 2, 1) := by decide +kernel
theorem dX12_shed_99 : decode cX12_shed 99 = .ok (.iload_n 2, 1) := by decide +kernel
theorem dX12_shed_100 : decode cX12_shed 100 = .ok (.aload_n 0, 1) := by decide +kernel
theorem dX12_shed_101 : decode cX12_shed 101 = .ok (.getfield 142, 3) := by decide +kernel
theorem dX12_shed_104 : decode cX12_shed 104 = .ok (.if_icmp .ge 41, 3) := by decide +kernel
theorem dX12_shed_107 : decode cX12_shed 107 = .ok (.aload_n 0, 1) := by decide +kernel
theorem dX12_shed_108 : decode cX12_shed 108 = .ok (.getfield 13, 3) := by decide +kernel
theorem dX12_shed_111 : decode cX12_shed 111 = .ok (.iload_n 2, 1) := by decide +kernel
theorem dX12_shed_112 : decode cX12_shed 112 = .ok (.aload_n 0, 1) := by decide +kernel
theorem dX12_shed_113 : decode cX12_shed 113 = .ok (.getfield 39, 3) := by decide +kernel
theorem dX12_shed_116 : decode cX12_shed 116 = .ok (.iconst 2, 1) := by decide +kernel
theorem dX12_shed_117 : decode cX12_shed 117 = .ok (.iload_n 2, 1) := by decide +kernel
theorem dX12_shed_118 : decode cX12_shed 118 = .ok (.imul, 1) := by decide +kernel
theorem dX12_shed_119 : decode cX12_shed 119 = .ok (.iaload, 1) := by decide +kernel
theorem dX12_shed_120 : decode cX12_shed 120 = .ok (.iastore, 1) := by decide +kernel
theorem dX12_shed_121 : decode cX12_shed 121 = .ok (.aload_n 0, 1) := by decide +kernel
theorem dX12_shed_122 : decode cX12_shed 122 = .ok (.getfield 7, 3) := by decide +kernel
theorem dX12_shed_125 : decode cX12_shed 125 = .ok (.iconst 1, 1) := by decide +kernel
theorem dX12_shed_126 : decode cX12_shed 126 = .ok (.iload_n 2, 1) := by decide +kernel
theorem dX12_shed_127 : decode cX12_shed 127 = .ok (.iadd, 1) := by decide +kernel
theorem dX12_shed_128 : decode cX12_shed 128 = .ok (.aload_n 0, 1) := by decide +kernel
theorem dX12_shed_129 : decode cX12_shed 129 = .ok (.getfield 39, 3) := by decide +kernel
theorem dX12_shed_132 : decode cX12_shed 132 = .ok (.iconst 2, 1) := by decide +kernel
theorem dX12_shed_133 : decode cX12_shed 133 = .ok (.iload_n 2, 1) := by decide +kernel
theorem dX12_shed_134 : decode cX12_shed 134 = .ok (.imul, 1) := by decide +kernel
theorem dX12_shed_135 : decode cX12_shed 135 = .ok (.iconst 1, 1) := by decide +kernel
theorem dX12_shed_136 : decode cX12_shed 136 = .ok (.iadd, 1) := by decide +kernel
theorem dX12_shed_137 : decode cX12_shed 137 = .ok (.iaload, 1) := by decide +kernel
theorem dX12_shed_138 : decode cX12_shed 138 = .ok (.iastore, 1) := by decide +kernel
theorem dX12_shed_139 : decode cX12_shed 139 = .ok (.iinc 2 1, 3) := by decide +kernel
theorem dX12_shed_142 : decode cX12_shed 142 = .ok (.goto (-43), 3) := by decide +kernel
theorem dX12_shed_145 : decode cX12_shed 145 = .ok (.iconst 1, 1) := by decide +kernel
theorem dX12_shed_146 : decode cX12_shed 146 = .ok (.istore_n 2, 1) := by decide +kernel
theorem dX12_shed_147 : decode cX12_shed 147 = .ok (.iload_n 2, 1) := by decide +kernel
theorem dX12_shed_148 : decode cX12_shed 148 = .ok (.iconst 4, 1) := by decide +kernel
theorem dX12_shed_149 : decode cX12_shed 149 = .ok (.if_icmp .ge 21, 3) := by decide +kernel
theorem dX12_shed_152 : decode cX12_shed 152 = .ok (.aload_n 0, 1) := by decide +kernel
theorem dX12_shed_153 : decode cX12_shed 153 = .ok (.getfield 7, 3) := by decide +kernel
theorem dX12_shed_156 : decode cX12_shed 156 = .ok (.bipush 38, 2) := by decide +kernel
theorem dX12_shed_158 : decode cX12_shed 158 = .ok (.iload_n 2, 1) := by decide +kernel
theorem dX12_shed_159 : decode cX12_shed 159 = .ok (.imul, 1) := by decide +kernel
theorem dX12_shed_160 : decode cX12_shed 160 = .ok (.iconst 0, 1) := by decide +kernel
theorem dX12_shed_161 : decode cX12_shed 161 = .ok (.iadd, 1) := by decide +kernel
theorem dX12_shed_162 : decode cX12_shed 162 = .ok (.iconst (-1), 1) := by decide +kernel
theorem dX12_shed_163 : decode cX12_shed 163 = .ok (.iastore, 1) := by decide +kernel
theorem dX12_shed_164 : decode cX12_shed 164 = .ok (.iinc 2 1, 3) := by decide +kernel
theorem dX12_shed_167 : decode cX12_shed 167 = .ok (.goto (-20), 3) := by decide +kernel
theorem dX12_shed_170 : decode cX12_shed 170 = .ok (.aload_n 0, 1) := by decide +kernel
theorem dX12_shed_171 : decode cX12_shed 171 = .ok (.invokevirtual 145, 3) := by decide +kernel
theorem dX12_shed_174 : decode cX12_shed 174 = .ok (.aload_n 0, 1) := by decide +kernel
theorem dX12_shed_175 : decode cX12_shed 175 = .ok (.getfield 142, 3) := by decide +kernel
theorem dX12_shed_178 : decode cX12_shed 178 = .ok (.ireturn, 1) := by decide +kernel
theorem dX12_isPerson_0 : decode cX12_isPerson 0 = .ok (.iload_n 1, 1) := by decide +kernel
theorem dX12_isPerson_1 : decode cX12_isPerson 1 = .ok (.i2l, 1) := by decide +kernel
theorem dX12_isPerson_2 : decode cX12_isPerson 2 = .ok (.lconst 0, 1) := by decide +kernel
theorem dX12_isPerson_3 : decode cX12_isPerson 3 = .ok (.aload_n 0, 1) := by decide +kernel
theorem dX12_isPerson_4 : decode cX12_isPerson 4 = .ok (.getfield 142, 3) := by decide +kernel
theorem dX12_isPerson_7 : decode cX12_isPerson 7 = .ok (.iconst 1, 1) := by decide +kernel
theorem dX12_isPerson_8 : decode cX12_isPerson 8 = .ok (.isub, 1) := by decide +kernel
theorem dX12_isPerson_9 : decode cX12_isPerson 9 = .ok (.i2l, 1) := by decide +kernel
theorem dX12_isPerson_10 : decode cX12_isPerson 10 = .ok (.invokestatic 57, 3) := by decide +kernel
theorem dX12_isPerson_13 : decode cX12_isPerson 13 = .ok (.ireturn, 1) := by decide +kernel
theorem dX12_isSetting_0 : decode cX12_isSetting 0 = .ok (.iload_n 1, 1) := by decide +kernel
theorem dX12_isSetting_1 : decode cX12_isSetting 1 = .ok (.i2l, 1) := by decide +kernel
theorem dX12_isSetting_2 : decode cX12_isSetting 2 = .ok (.lconst 0, 1) := by decide +kernel
theorem dX12_isSetting_3 : decode cX12_isSetting 3 = .ok (.aload_n 0, 1) := by decide +kernel
theorem dX12_isSetting_4 : decode cX12_isSetting 4 = .ok (.getfield 139, 3) := by decide +kernel
theorem dX12_isSetting_7 : decode cX12_isSetting 7 = .ok (.iconst 1, 1) := by decide +kernel
theorem dX12_isSetting_8 : decode cX12_isSetting 8 = .ok (.isub, 1) := by decide +kernel
theorem dX12_isSetting_9 : decode cX12_isSetting 9 = .ok (.i2l, 1) := by decide +kernel
theorem dX12_isSetting_10 : decode cX12_isSetting 10 = .ok (.invokestatic 57, 3) := by decide +kernel
theorem dX12_isSetting_13 : decode cX12_isSetting 13 = .ok (.ireturn, 1) := by decide +kernel
theorem dX12_notch_0 : decode cX12_notch 0 = .ok (.iload_n 1, 1) := by decide +kernel
theorem dX12_notch_1 : decode cX12_notch 1 = .ok (.aload_n 0, 1) := by decide +kernel
theorem dX12_notch_2 : decode cX12_notch 2 = .ok (.getfield 133, 3) := by decide +kernel
theorem dX12_notch_5 : decode cX12_notch 5 = .ok (.aload_n 0, 1) := by decide +kernel
theorem dX12_notch_6 : decode cX12_notch 6 = .ok (.getfield 130, 3) := by decide +kernel
theorem dX12_notch_9 : decode cX12_notch 9 = .ok (.iconst 1, 1) := by decide +kernel
theorem dX12_notch_10 : decode cX12_notch 10 = .ok (.isub, 1) := by decide +kernel
theorem dX12_notch_11 : decode cX12_notch 11 = .ok (.iload_n 2, 1) := by decide +kernel
theorem dX12_notch_12 : decode cX12_notch 12 = .ok (.isub, 1) := by decide +kernel
theorem dX12_notch_13 : decode cX12_notch 13 = .ok (.invokestatic 136, 3) := by decide +kernel
theorem dX12_notch_16 : decode cX12_notch 16 = .ok (.idiv, 1) := by decide +kernel
theorem dX12_notch_17 : decode cX12_notch 17 = .ok (.aload_n 0, 1) := by decide +kernel
theorem dX12_notch_18 : decode cX12_notch 18 = .ok (.getfield 133, 3) := by decide +kernel
theorem dX12_notch_21 : decode cX12_notch 21 = .ok (.irem, 1) := by decide +kernel
theorem dX12_notch_22 : decode cX12_notch 22 = .ok (.ireturn, 1) := by decide +kernel
theorem dX12_up_0 : decode cX12_up 0 = .ok (.aload_n 0, 1) := by decide +kernel
theorem dX12_up_1 : decode cX12_up 1 = .ok (.iload_n 3, 1) := by decide +kernel
theorem dX12_up_2 : decode cX12_up 2 = .ok (.iload_n 1, 1) := by decide +kernel
theorem dX12_up_3 : decode cX12_up 3 = .ok (.invokevirtual 148, 3) := by decide +kernel
theorem dX12_up_6 : decode cX12_up 6 = .ok (.aload_n 0, 1) := by decide +kernel
theorem dX12_up_7 : decode cX12_up 7 = .ok (.iload_n 2, 1) := by decide +kernel
theorem dX12_up_8 : decode cX12_up 8 = .ok (.iload_n 1, 1) := by decide +kernel
theorem dX12_up_9 : decode cX12_up 9 = .ok (.invokevirtual 148, 3) := by decide +kernel
theorem dX12_up_12 : decode cX12_up 12 = .ok (.isub, 1) := by decide +kernel
theorem dX12_up_13 : decode cX12_up 13 = .ok (.aload_n 0, 1) := by decide +kernel
theorem dX12_up_14 : decode cX12_up 14 = .ok (.getfield 133, 3) := by decide +kernel
theorem dX12_up_17 : decode cX12_up 17 = .ok (.iadd, 1) := by decide +kernel
theorem dX12_up_18 : decode cX12_up 18 = .ok (.aload_n 0, 1) := by decide +kernel
theorem dX12_up_19 : decode cX12_up 19 = .ok (.getfield 133, 3) := by decide +kernel
theorem dX12_up_22 : decode cX12_up 22 = .ok (.irem, 1) := by decide +kernel
theorem dX12_up_23 : decode cX12_up 23 = .ok (.ireturn, 1) := by decide +kernel
theorem dX12_flicksOf_0 : decode cX12_flicksOf 0 = .ok (.aload_n 0, 1) := by decide +kernel
theorem dX12_flicksOf_1 : decode cX12_flicksOf 1 = .ok (.getfield 7, 3) := by decide +kernel
theorem dX12_flicksOf_4 : decode cX12_flicksOf 4 = .ok (.iconst 1, 1) := by decide +kernel
theorem dX12_flicksOf_5 : decode cX12_flicksOf 5 = .ok (.iload_n 1, 1) := by decide +kernel
theorem dX12_flicksOf_6 : decode cX12_flicksOf 6 = .ok (.iadd, 1) := by decide +kernel
theorem dX12_flicksOf_7 : decode cX12_flicksOf 7 = .ok (.iaload, 1) := by decide +kernel
theorem dX12_flicksOf_8 : decode cX12_flicksOf 8 = .ok (.ireturn, 1) := by decide +kernel
theorem dX12_eithers_0 : decode cX12_eithers 0 = .ok (.iload_n 2, 1) := by decide +kernel
theorem dX12_eithers_1 : decode cX12_eithers 1 = .ok (.i2l, 1) := by decide +kernel
theorem dX12_eithers_2 : decode cX12_eithers 2 = .ok (.lconst 1, 1) := by decide +kernel
theorem dX12_eithers_3 : decode cX12_eithers 3 = .ok (.iload_n 1, 1) := by decide +kernel
theorem dX12_eithers_4 : decode cX12_eithers 4 = .ok (.i2l, 1) := by decide +kernel
theorem dX12_eithers_5 : decode cX12_eithers 5 = .ok (.invokestatic 57, 3) := by decide +kernel
theorem dX12_eithers_8 : decode cX12_eithers 8 = .ok (.ifCond .eq 7, 3) := by decide +kernel
theorem dX12_eithers_11 : decode cX12_eithers 11 = .ok (.iconst 1, 1) := by decide +kernel
theorem dX12_eithers_12 : decode cX12_eithers 12 = .ok (.goto 4, 3) := by decide +kernel
theorem dX12_eithers_15 : decode cX12_eithers 15 = .ok (.iconst 0, 1) := by decide +kernel
theorem dX12_eithers_16 : decode cX12_eithers 16 = .ok (.aload_n 0, 1) := by decide +kernel
theorem dX12_eithers_17 : decode cX12_eithers 17 = .ok (.getfield 133, 3) := by decide +kernel
theorem dX12_eithers_20 : decode cX12_eithers 20 = .ok (.iload_n 2, 1) := by decide +kernel
theorem dX12_eithers_21 : decode cX12_eithers 21 = .ok (.isub, 1) := by decide +kernel
theorem dX12_eithers_22 : decode cX12_eithers 22 = .ok (.i2l, 1) := by decide +kernel
theorem dX12_eithers_23 : decode cX12_eithers 23 = .ok (.lconst 1, 1) := by decide +kernel
theorem dX12_eithers_24 : decode cX12_eithers 24 = .ok (.iload_n 1, 1) := by decide +kernel
theorem dX12_eithers_25 : decode cX12_eithers 25 = .ok (.i2l, 1) := by decide +kernel
theorem dX12_eithers_26 : decode cX12_eithers 26 = .ok (.invokestatic 57, 3) := by decide +kernel
theorem dX12_eithers_29 : decode cX12_eithers 29 = .ok (.ifCond .eq 7, 3) := by decide +kernel
theorem dX12_eithers_32 : decode cX12_eithers 32 = .ok (.iconst 1, 1) := by decide +kernel
theorem dX12_eithers_33 : decode cX12_eithers 33 = .ok (.goto 4, 3) := by decide +kernel
theorem dX12_eithers_36 : decode cX12_eithers 36 = .ok (.iconst 0, 1) := by decide +kernel
theorem dX12_eithers_37 : decode cX12_eithers 37 = .ok (.iadd, 1) := by decide +kernel
theorem dX12_eithers_38 : decode cX12_eithers 38 = .ok (.ireturn, 1) := by decide +kernel
theorem dX12_wheelWays_0 : decode cX12_wheelWays 0 = .ok (.aload_n 0, 1) := by decide +kernel
theorem dX12_wheelWays_1 : decode cX12_wheelWays 1 = .ok (.iload_n 1, 1) := by decide +kernel
theorem dX12_wheelWays_2 : decode cX12_wheelWays 2 = .ok (.invokevirtual 151, 3) := by decide +kernel
theorem dX12_wheelWays_5 : decode cX12_wheelWays 5 = .ok (.istore 4, 2) := by decide +kernel
theorem dX12_wheelWays_7 : decode cX12_wheelWays 7 = .ok (.iload_n 2, 1) := by decide +kernel
theorem dX12_wheelWays_8 : decode cX12_wheelWays 8 = .ok (.aload_n 0, 1) := by decide +kernel
theorem dX12_wheelWays_9 : decode cX12_wheelWays 9 = .ok (.getfield 130, 3) := by decide +kernel
theorem dX12_wheelWays_12 : decode cX12_wheelWays 12 = .ok (.iconst 1, 1) := by decide +kernel
theorem dX12_wheelWays_13 : decode cX12_wheelWays 13 = .ok (.isub, 1) := by decide +kernel
theorem dX12_wheelWays_14 : decode cX12_wheelWays 14 = .ok (.if_icmp .ne 7, 3) := by decide +kernel
theorem dX12_wheelWays_17 : decode cX12_wheelWays 17 = .ok (.iconst 1, 1) := by decide +kernel
theorem dX12_wheelWays_18 : decode cX12_wheelWays 18 = .ok (.goto 4, 3) := by decide +kernel
theorem dX12_wheelWays_21 : decode cX12_wheelWays 21 = .ok (.iconst 0, 1) := by decide +kernel
theorem dX12_wheelWays_22 : decode cX12_wheelWays 22 = .ok (.istore 5, 2) := by decide +kernel
theorem dX12_wheelWays_24 : decode cX12_wheelWays 24 = .ok (.aload_n 0, 1) := by decide +kernel
theorem dX12_wheelWays_25 : decode cX12_wheelWays 25 = .ok (.getfield 13, 3) := by decide +kernel
theorem dX12_wheelWays_28 : decode cX12_wheelWays 28 = .ok (.iload_n 1, 1) := by decide +kernel
theorem dX12_wheelWays_29 : decode cX12_wheelWays 29 = .ok (.iaload, 1) := by decide +kernel
theorem dX12_wheelWays_30 : decode cX12_wheelWays 30 = .ok (.tableswitch 101 1 5 #[34, 101, 101, 59, 89], 34) := by decide +kernel
theorem dX12_wheelWays_64 : decode cX12_wheelWays 64 = .ok (.iload 5, 2) := by decide +kernel
theorem dX12_wheelWays_66 : decode cX12_wheelWays 66 = .ok (.ifCond .eq 13, 3) := by decide +kernel
theorem dX12_wheelWays_69 : decode cX12_wheelWays 69 = .ok (.aload_n 0, 1) := by decide +kernel
theorem dX12_wheelWays_70 : decode cX12_wheelWays 70 = .ok (.iload 4, 2) := by decide +kernel
theorem dX12_wheelWays_72 : decode cX12_wheelWays 72 = .ok (.iload_n 3, 1) := by decide +kernel
theorem dX12_wheelWays_73 : decode cX12_wheelWays 73 = .ok (.invokevirtual 154, 3) := by decide +kernel
theorem dX12_wheelWays_76 : decode cX12_wheelWays 76 = .ok (.goto 12, 3) := by decide +kernel
theorem dX12_wheelWays_79 : decode cX12_wheelWays 79 = .ok (.iload_n 3, 1) := by decide +kernel
theorem dX12_wheelWays_80 : decode cX12_wheelWays 80 = .ok (.ifCond .ne 7, 3) := by decide +kernel
theorem dX12_wheelWays_83 : decode cX12_wheelWays 83 = .ok (.iconst 1, 1) := by decide +kernel
theorem dX12_wheelWays_84 : decode cX12_wheelWays 84 = .ok (.goto 4, 3) := by decide +kernel
theorem dX12_wheelWays_87 : decode cX12_wheelWays 87 = .ok (.iconst 0, 1) := by decide +kernel
theorem dX12_wheelWays_88 : decode cX12_wheelWays 88 = .ok (.ireturn, 1) := by decide +kernel
theorem dX12_wheelWays_89 : decode cX12_wheelWays 89 = .ok (.iload_n 2, 1) := by decide +kernel
theorem dX12_wheelWays_90 : decode cX12_wheelWays 90 = .ok (.aload_n 0, 1) := by decide +kernel
theorem dX12_wheelWays_91 : decode cX12_wheelWays 91 = .ok (.getfield 130, 3) := by decide +kernel
theorem dX12_wheelWays_94 : decode cX12_wheelWays 94 = .ok (.iconst 2, 1) := by decide +kernel
theorem dX12_wheelWays_95 : decode cX12_wheelWays 95 = .ok (.isub, 1) := by decide +kernel
theorem dX12_wheelWays_96 : decode cX12_wheelWays 96 = .ok (.if_icmp .lt 13, 3) := by decide +kernel
theorem dX12_wheelWays_99 : decode cX12_wheelWays 99 = .ok (.aload_n 0, 1) := by decide +kernel
theorem dX12_wheelWays_100 : decode cX12_wheelWays 100 = .ok (.iload 4, 2) := by decide +kernel
theorem dX12_wheelWays_102 : decode cX12_wheelWays 102 = .ok (.iload_n 3, 1) := by decide +kernel
theorem dX12_wheelWays_103 : decode cX12_wheelWays 103 = .ok (.invokevirtual 154, 3) := by decide +kernel
theorem dX12_wheelWays_106 : decode cX12_wheelWays 106 = .ok (.goto 12, 3) := by decide +kernel
theorem dX12_wheelWays_109 : decode cX12_wheelWays 109 = .ok (.iload_n 3, 1) := by decide +kernel
theorem dX12_wheelWays_110 : decode cX12_wheelWays 110 = .ok (.ifCond .ne 7, 3) := by decide +kernel
theorem dX12_wheelWays_113 : decode cX12_wheelWays 113 = .ok (.iconst 1, 1) := by decide +kernel
theorem dX12_wheelWays_114 : decode cX12_wheelWays 114 = .ok (.goto 4, 3) := by decide +kernel
theorem dX12_wheelWays_117 : decode cX12_wheelWays 117 = .ok (.iconst 0, 1) := by decide +kernel
theorem dX12_wheelWays_118 : decode cX12_wheelWays 118 = .ok (.ireturn, 1) := by decide +kernel
theorem dX12_wheelWays_119 : decode cX12_wheelWays 119 = .ok (.iload_n 3, 1) := by decide +kernel
theorem dX12_wheelWays_120 : decode cX12_wheelWays 120 = .ok (.iload 4, 2) := by decide +kernel
theorem dX12_wheelWays_122 : decode cX12_wheelWays 122 = .ok (.if_icmp .gt 7, 3) := by decide +kernel
theorem dX12_wheelWays_125 : decode cX12_wheelWays 125 = .ok (.iconst 1, 1) := by decide +kernel
theorem dX12_wheelWays_126 : decode cX12_wheelWays 126 = .ok (.goto 4, 3) := by decide +kernel
theorem dX12_wheelWays_129 : decode cX12_wheelWays 129 = .ok (.iconst 0, 1) := by decide +kernel
theorem dX12_wheelWays_130 : decode cX12_wheelWays 130 = .ok (.ireturn, 1) := by decide +kernel
theorem dX12_wheelWays_131 : decode cX12_wheelWays 131 = .ok (.iload 5, 2) := by decide +kernel
theorem dX12_wheelWays_133 : decode cX12_wheelWays 133 = .ok (.ifCond .eq 23, 3) := by decide +kernel
theorem dX12_wheelWays_136 : decode cX12_wheelWays 136 = .ok (.iload_n 3, 1) := by decide +kernel
theorem dX12_wheelWays_137 : decode cX12_wheelWays 137 = .ok (.i2l, 1) := by decide +kernel
theorem dX12_wheelWays_138 : decode cX12_wheelWays 138 = .ok (.lconst 1, 1) := by decide +kernel
theorem dX12_wheelWays_139 : decode cX12_wheelWays 139 = .ok (.iload 4, 2) := by decide +kernel
theorem dX12_wheelWays_141 : decode cX12_wheelWays 141 = .ok (.i2l, 1) := by decide +kernel
theorem dX12_wheelWays_142 : decode cX12_wheelWays 142 = .ok (.invokestatic 57, 3) := by decide +kernel
theorem dX12_wheelWays_145 : decode cX12_wheelWays 145 = .ok (.ifCond .eq 7, 3) := by decide +kernel
theorem dX12_wheelWays_148 : decode cX12_wheelWays 148 = .ok (.iconst 1, 1) := by decide +kernel
theorem dX12_wheelWays_149 : decode cX12_wheelWays 149 = .ok (.goto 16, 3) := by decide +kernel
theorem dX12_wheelWays_152 : decode cX12_wheelWays 152 = .ok (.iconst 0, 1) := by decide +kernel
theorem dX12_wheelWays_153 : decode cX12_wheelWays 153 = .ok (.goto 12, 3) := by decide +kernel
theorem dX12_wheelWays_156 : decode cX12_wheelWays 156 = .ok (.iload_n 3, 1) := by decide +kernel
theorem dX12_wheelWays_157 : decode cX12_wheelWays 157 = .ok (.ifCond .ne 7, 3) := by decide +kernel
theorem dX12_wheelWays_160 : decode cX12_wheelWays 160 = .ok (.iconst 1, 1) := by decide +kernel
theorem dX12_wheelWays_161 : decode cX12_wheelWays 161 = .ok (.goto 4, 3) := by decide +kernel
theorem dX12_wheelWays_164 : decode cX12_wheelWays 164 = .ok (.iconst 0, 1) := by decide +kernel
theorem dX12_wheelWays_165 : decode cX12_wheelWays 165 = .ok (.ireturn, 1) := by decide +kernel
theorem dX12_anyWays_0 : decode cX12_anyWays 0 = .ok (.iconst 0, 1) := by decide +kernel
theorem dX12_anyWays_1 : decode cX12_anyWays 1 = .ok (.istore 4, 2) := by decide +kernel
theorem dX12_anyWays_3 : decode cX12_anyWays 3 = .ok (.iconst 0, 1) := by decide +kernel
theorem dX12_anyWays_4 : decode cX12_anyWays 4 = .ok (.istore 5, 2) := by decide +kernel
theorem dX12_anyWays_6 : decode cX12_anyWays 6 = .ok (.iconst 0, 1) := by decide +kernel
theorem dX12_anyWays_7 : decode cX12_anyWays 7 = .ok (.istore 6, 2) := by decide +kernel
theorem dX12_anyWays_9 : decode cX12_anyWays 9 = .ok (.iload 6, 2) := by decide +kernel
theorem dX12_anyWays_11 : decode cX12_anyWays 11 = .ok (.aload_n 0, 1) := by decide +kernel
theorem dX12_anyWays_12 : decode cX12_anyWays 12 = .ok (.getfield 130, 3) := by decide +kernel
theorem dX12_anyWays_15 : decode cX12_anyWays 15 = .ok (.if_icmp .ge 41, 3) := by decide +kernel
theorem dX12_anyWays_18 : decode cX12_anyWays 18 = .ok (.aload_n 0, 1) := by decide +kernel
theorem dX12_anyWays_19 : decode cX12_anyWays 19 = .ok (.iload 6, 2) := by decide +kernel
theorem dX12_anyWays_21 : decode cX12_anyWays 21 = .ok (.iload_n 2, 1) := by decide +kernel
theorem dX12_anyWays_22 : decode cX12_anyWays 22 = .ok (.iload_n 3, 1) := by decide +kernel
theorem dX12_anyWays_23 : decode cX12_anyWays 23 = .ok (.invokevirtual 157, 3) := by decide +kernel
theorem dX12_anyWays_26 : decode cX12_anyWays 26 = .ok (.istore 7, 2) := by decide +kernel
theorem dX12_anyWays_28 : decode cX12_anyWays 28 = .ok (.iload 4, 2) := by decide +kernel
theorem dX12_anyWays_30 : decode cX12_anyWays 30 = .ok (.iload 7, 2) := by decide +kernel
theorem dX12_anyWays_32 : decode cX12_anyWays 32 = .ok (.ifCond .ne 7, 3) := by decide +kernel
theorem dX12_anyWays_35 : decode cX12_anyWays 35 = .ok (.iconst 0, 1) := by decide +kernel
theorem dX12_anyWays_36 : decode cX12_anyWays 36 = .ok (.goto 4, 3) := by decide +kernel
theorem dX12_anyWays_39 : decode cX12_anyWays 39 = .ok (.iconst 1, 1) := by decide +kernel
theorem dX12_anyWays_40 : decode cX12_anyWays 40 = .ok (.iadd, 1) := by decide +kernel
theorem dX12_anyWays_41 : decode cX12_anyWays 41 = .ok (.istore 4, 2) := by decide +kernel
theorem dX12_anyWays_43 : decode cX12_anyWays 43 = .ok (.iload 5, 2) := by decide +kernel
theorem dX12_anyWays_45 : decode cX12_anyWays 45 = .ok (.iload 7, 2) := by decide +kernel
theorem dX12_anyWays_47 : decode cX12_anyWays 47 = .ok (.iadd, 1) := by decide +kernel
theorem dX12_anyWays_48 : decode cX12_anyWays 48 = .ok (.istore 5, 2) := by decide +kernel
theorem dX12_anyWays_50 : decode cX12_anyWays 50 = .ok (.iinc 6 1, 3) := by decide +kernel
theorem dX12_anyWays_53 : decode cX12_anyWays 53 = .ok (.goto (-44), 3) := by decide +kernel
theorem dX12_anyWays_56 : decode cX12_anyWays 56 = .ok (.iload 4, 2) := by decide +kernel
theorem dX12_anyWays_58 : decode cX12_anyWays 58 = .ok (.iconst 1, 1) := by decide +kernel
theorem dX12_anyWays_59 : decode cX12_anyWays 59 = .ok (.if_icmp .ne 17, 3) := by decide +kernel
theorem dX12_anyWays_62 : decode cX12_anyWays 62 = .ok (.iload 5, 2) := by decide +kernel
theorem dX12_anyWays_64 : decode cX12_anyWays 64 = .ok (.aload_n 0, 1) := by decide +kernel
theorem dX12_anyWays_65 : decode cX12_anyWays 65 = .ok (.iload_n 1, 1) := by decide +kernel
theorem dX12_anyWays_66 : decode cX12_anyWays 66 = .ok (.invokevirtual 151, 3) := by decide +kernel
theorem dX12_anyWays_69 : decode cX12_anyWays 69 = .ok (.if_icmp .gt 7, 3) := by decide +kernel
theorem dX12_anyWays_72 : decode cX12_anyWays 72 = .ok (.iconst 1, 1) := by decide +kernel
theorem dX12_anyWays_73 : decode cX12_anyWays 73 = .ok (.goto 4, 3) := by decide +kernel
theorem dX12_anyWays_76 : decode cX12_anyWays 76 = .ok (.iconst 0, 1) := by decide +kernel
theorem dX12_anyWays_77 : decode cX12_anyWays 77 = .ok (.ireturn, 1) := by decide +kernel
theorem dX12_waysOf_0 : decode cX12_waysOf 0 = .ok (.aload_n 0, 1) := by decide +kernel
theorem dX12_waysOf_1 : decode cX12_waysOf 1 = .ok (.getfield 13, 3) := by decide +kernel
theorem dX12_waysOf_4 : decode cX12_waysOf 4 = .ok (.iload_n 1, 1) := by decide +kernel
theorem dX12_waysOf_5 : decode cX12_waysOf 5 = .ok (.iaload, 1) := by decide +kernel
theorem dX12_waysOf_6 : decode cX12_waysOf 6 = .ok (.iconst 3, 1) := by decide +kernel
theorem dX12_waysOf_7 : decode cX12_waysOf 7 = .ok (.if_icmp .ne 5, 3) := by decide +kernel
theorem dX12_waysOf_10 : decode cX12_waysOf 10 = .ok (.iconst 1, 1) := by decide +kernel
theorem dX12_waysOf_11 : decode cX12_waysOf 11 = .ok (.ireturn, 1) := by decide +kernel
theorem dX12_waysOf_12 : decode cX12_waysOf 12 = .ok (.aload_n 0, 1) := by decide +kernel
theorem dX12_waysOf_13 : decode cX12_waysOf 13 = .ok (.getfield 13, 3) := by decide +kernel
theorem dX12_waysOf_16 : decode cX12_waysOf 16 = .ok (.iload_n 1, 1) := by decide +kernel
theorem dX12_waysOf_17 : decode cX12_waysOf 17 = .ok (.iaload, 1) := by decide +kernel
theorem dX12_waysOf_18 : decode cX12_waysOf 18 = .ok (.iconst 2, 1) := by decide +kernel
theorem dX12_waysOf_19 : decode cX12_waysOf 19 = .ok (.if_icmp .ne 11, 3) := by decide +kernel
theorem dX12_waysOf_22 : decode cX12_waysOf 22 = .ok (.aload_n 0, 1) := by decide +kernel
theorem dX12_waysOf_23 : decode cX12_waysOf 23 = .ok (.iload_n 1, 1) := by decide +kernel
theorem dX12_waysOf_24 : decode cX12_waysOf 24 = .ok (.iload_n 2, 1) := by decide +kernel
theorem dX12_waysOf_25 : decode cX12_waysOf 25 = .ok (.iload_n 3, 1) := by decide +kernel
theorem dX12_waysOf_26 : decode cX12_waysOf 26 = .ok (.invokevirtual 161, 3) := by decide +kernel
theorem dX12_waysOf_29 : decode cX12_waysOf 29 = .ok (.ireturn, 1) := by decide +kernel
theorem dX12_waysOf_30 : decode cX12_waysOf 30 = .ok (.iconst 1, 1) := by decide +kernel
theorem dX12_waysOf_31 : decode cX12_waysOf 31 = .ok (.istore 4, 2) := by decide +kernel
theorem dX12_waysOf_33 : decode cX12_waysOf 33 = .ok (.iconst 0, 1) := by decide +kernel
theorem dX12_waysOf_34 : decode cX12_waysOf 34 = .ok (.istore 5, 2) := by decide +kernel
theorem dX12_waysOf_36 : decode cX12_waysOf 36 = .ok (.iload 5, 2) := by decide +kernel
theorem dX12_waysOf_38 : decode cX12_waysOf 38 = .ok (.aload_n 0, 1) := by decide +kernel
theorem dX12_waysOf_39 : decode cX12_waysOf 39 = .ok (.getfield 130, 3) := by decide +kernel
theorem dX12_waysOf_42 : decode cX12_waysOf 42 = .ok (.if_icmp .ge 29, 3) := by decide +kernel
theorem dX12_waysOf_45 : decode cX12_waysOf 45 = .ok (.iload 4, 2) := by decide +kernel
theorem dX12_waysOf_47 : decode cX12_waysOf 47 = .ok (.aload_n 0, 1) := by decide +kernel
theorem dX12_waysOf_48 : decode cX12_waysOf 48 = .ok (.iload_n 1, 1) := by decide +kernel
theorem dX12_waysOf_49 : decode cX12_waysOf 49 = .ok (.iload 5, 2) := by decide +kernel
theorem dX12_waysOf_51 : decode cX12_waysOf 51 = .ok (.aload_n 0, 1) := by decide +kernel
theorem dX12_waysOf_52 : decode cX12_waysOf 52 = .ok (.iload 5, 2) := by decide +kernel
theorem dX12_waysOf_54 : decode cX12_waysOf 54 = .ok (.iload_n 2, 1) := by decide +kernel
theorem dX12_waysOf_55 : decode cX12_waysOf 55 = .ok (.iload_n 3, 1) := by decide +kernel
theorem dX12_waysOf_56 : decode cX12_waysOf 56 = .ok (.invokevirtual 157, 3) := by decide +kernel
theorem dX12_waysOf_59 : decode cX12_waysOf 59 = .ok (.invokevirtual 164, 3) := by decide +kernel
theorem dX12_waysOf_62 : decode cX12_waysOf 62 = .ok (.imul, 1) := by decide +kernel
theorem dX12_waysOf_63 : decode cX12_waysOf 63 = .ok (.istore 4, 2) := by decide +kernel
theorem dX12_waysOf_65 : decode cX12_waysOf 65 = .ok (.iinc 5 1, 3) := by decide +kernel
theorem dX12_waysOf_68 : decode cX12_waysOf 68 = .ok (.goto (-32), 3) := by decide +kernel
theorem dX12_waysOf_71 : decode cX12_waysOf 71 = .ok (.iload 4, 2) := by decide +kernel
theorem dX12_waysOf_73 : decode cX12_waysOf 73 = .ok (.ireturn, 1) := by decide +kernel
theorem dX12_twoAtMost_0 : decode cX12_twoAtMost 0 = .ok (.aload_n 0, 1) := by decide +kernel
theorem dX12_twoAtMost_1 : decode cX12_twoAtMost 1 = .ok (.getfield 130, 3) := by decide +kernel
theorem dX12_twoAtMost_4 : decode cX12_twoAtMost 4 = .ok (.iconst 2, 1) := by decide +kernel
theorem dX12_twoAtMost_5 : decode cX12_twoAtMost 5 = .ok (.if_icmp .ge 10, 3) := by decide +kernel
theorem dX12_twoAtMost_8 : decode cX12_twoAtMost 8 = .ok (.aload_n 0, 1) := by decide +kernel
theorem dX12_twoAtMost_9 : decode cX12_twoAtMost 9 = .ok (.getfield 130, 3) := by decide +kernel
theorem dX12_twoAtMost_12 : decode cX12_twoAtMost 12 = .ok (.goto 4, 3) := by decide +kernel
theorem dX12_twoAtMost_15 : decode cX12_twoAtMost 15 = .ok (.iconst 2, 1) := by decide +kernel
theorem dX12_twoAtMost_16 : decode cX12_twoAtMost 16 = .ok (.ireturn, 1) := by decide +kernel
theorem dX12_waysInAll_0 : decode cX12_waysInAll 0 = .ok (.aload_n 0, 1) := by decide +kernel
theorem dX12_waysInAll_1 : decode cX12_waysInAll 1 = .ok (.iload_n 1, 1) := by decide +kernel
theorem dX12_waysInAll_2 : decode cX12_waysInAll 2 = .ok (.invokevirtual 151, 3) := by decide +kernel
theorem dX12_waysInAll_5 : decode cX12_waysInAll 5 = .ok (.istore_n 2, 1) := by decide +kernel
theorem dX12_waysInAll_6 : decode cX12_waysInAll 6 = .ok (.aload_n 0, 1) := by decide +kernel
theorem dX12_waysInAll_7 : decode cX12_waysInAll 7 = .ok (.getfield 13, 3) := by decide +kernel
theorem dX12_waysInAll_10 : decode cX12_waysInAll 10 = .ok (.iload_n 1, 1) := by decide +kernel
theorem dX12_waysInAll_11 : decode cX12_waysInAll 11 = .ok (.iaload, 1) := by decide +kernel
theorem dX12_waysInAll_12 : decode cX12_waysInAll 12 = .ok (.tableswitch 74 1 5 #[36, 40, 47, 52, 63], 36) := by decide +kernel
theorem dX12_waysInAll_48 : decode cX12_waysInAll 48 = .ok (.iconst 2, 1) := by decide +kernel
theorem dX12_waysInAll_49 : decode cX12_waysInAll 49 = .ok (.iload_n 2, 1) := by decide +kernel
theorem dX12_waysInAll_50 : decode cX12_waysInAll 50 = .ok (.imul, 1) := by decide +kernel
theorem dX12_waysInAll_51 : decode cX12_waysInAll 51 = .ok (.ireturn, 1) := by decide +kernel
