theorem dX11_init_0 : decode cX11_init 0 = .ok (.aload_n 0, 1) := by decide +kernel
theorem dX11_init_1 : decode cX11_init 1 = .ok (.invokespecial 1, 3) := by decide +kernel
theorem dX11_init_4 : decode cX11_init 4 = .ok (.aload_n 0, 1) := by decide +kernel
theorem dX11_init_5 : decode cX11_init 5 = .ok (.bipush 6, 2) := by decide +kernel
theorem dX11_init_7 : decode cX11_init 7 = .ok (.anewarray 9, 3) := by decide +kernel
theorem dX11_init_10 : decode cX11_init 10 = .ok (.putfield 11, 3) := by decide +kernel
theorem dX11_init_13 : decode cX11_init 13 = .ok (.aload_n 0, 1) := by decide +kernel
theorem dX11_init_14 : decode cX11_init 14 = .ok (.iconst 4, 1) := by decide +kernel
theorem dX11_init_15 : decode cX11_init 15 = .ok (.anewarray 9, 3) := by decide +kernel
theorem dX11_init_18 : decode cX11_init 18 = .ok (.putfield 15, 3) := by decide +kernel
theorem dX11_init_21 : decode cX11_init 21 = .ok (.aload_n 0, 1) := by decide +kernel
theorem dX11_init_22 : decode cX11_init 22 = .ok (.iconst 3, 1) := by decide +kernel
theorem dX11_init_23 : decode cX11_init 23 = .ok (.anewarray 18, 3) := by decide +kernel
theorem dX11_init_26 : decode cX11_init 26 = .ok (.putfield 20, 3) := by decide +kernel
theorem dX11_init_29 : decode cX11_init 29 = .ok (.aload_n 0, 1) := by decide +kernel
theorem dX11_init_30 : decode cX11_init 30 = .ok (.new 24, 3) := by decide +kernel
theorem dX11_init_33 : decode cX11_init 33 = .ok (.dup, 1) := by decide +kernel
theorem dX11_init_34 : decode cX11_init 34 = .ok (.invokespecial 26, 3) := by decide +kernel
theorem dX11_init_37 : decode cX11_init 37 = .ok (.putfield 27, 3) := by decide +kernel
theorem dX11_init_40 : decode cX11_init 40 = .ok (.aload_n 0, 1) := by decide +kernel
theorem dX11_init_41 : decode cX11_init 41 = .ok (.new 31, 3) := by decide +kernel
theorem dX11_init_44 : decode cX11_init 44 = .ok (.dup, 1) := by decide +kernel
theorem dX11_init_45 : decode cX11_init 45 = .ok (.invokespecial 33, 3) := by decide +kernel
theorem dX11_init_48 : decode cX11_init 48 = .ok (.putfield 34, 3) := by decide +kernel
theorem dX11_init_51 : decode cX11_init 51 = .ok (.aload_n 0, 1) := by decide +kernel
theorem dX11_init_52 : decode cX11_init 52 = .ok (.bipush 6, 2) := by decide +kernel
theorem dX11_init_54 : decode cX11_init 54 = .ok (.newarray .int, 2) := by decide +kernel
theorem dX11_init_56 : decode cX11_init 56 = .ok (.putfield 38, 3) := by decide +kernel
theorem dX11_init_59 : decode cX11_init 59 = .ok (.aload_n 0, 1) := by decide +kernel
theorem dX11_init_60 : decode cX11_init 60 = .ok (.iconst 0, 1) := by decide +kernel
theorem dX11_init_61 : decode cX11_init 61 = .ok (.putfield 42, 3) := by decide +kernel
theorem dX11_init_64 : decode cX11_init 64 = .ok (.aload_n 0, 1) := by decide +kernel
theorem dX11_init_65 : decode cX11_init 65 = .ok (.iconst 0, 1) := by decide +kernel
theorem dX11_init_66 : decode cX11_init 66 = .ok (.putfield 46, 3) := by decide +kernel
theorem dX11_init_69 : decode cX11_init 69 = .ok (.aload_n 0, 1) := by decide +kernel
theorem dX11_init_70 : decode cX11_init 70 = .ok (.lconst 0, 1) := by decide +kernel
theorem dX11_init_71 : decode cX11_init 71 = .ok (.putfield 49, 3) := by decide +kernel
theorem dX11_init_74 : decode cX11_init 74 = .ok (.aload_n 0, 1) := by decide +kernel
theorem dX11_init_75 : decode cX11_init 75 = .ok (.lconst 1, 1) := by decide +kernel
theorem dX11_init_76 : decode cX11_init 76 = .ok (.putfield 53, 3) := by decide +kernel
theorem dX11_init_79 : decode cX11_init 79 = .ok (.iconst 0, 1) := by decide +kernel
theorem dX11_init_80 : decode cX11_init 80 = .ok (.istore_n 1, 1) := by decide +kernel
theorem dX11_init_81 : decode cX11_init 81 = .ok (.iload_n 1, 1) := by decide +kernel
theorem dX11_init_82 : decode cX11_init 82 = .ok (.aload_n 0, 1) := by decide +kernel
theorem dX11_init_83 : decode cX11_init 83 = .ok (.getfield 11, 3) := by decide +kernel
theorem dX11_init_86 : decode cX11_init 86 = .ok (.arraylength, 1) := by decide +kernel
theorem dX11_init_87 : decode cX11_init 87 = .ok (.if_icmp .ge 24, 3) := by decide +kernel
theorem dX11_init_90 : decode cX11_init 90 = .ok (.aload_n 0, 1) := by decide +kernel
theorem dX11_init_91 : decode cX11_init 91 = .ok (.getfield 11, 3) := by decide +kernel
theorem dX11_init_94 : decode cX11_init 94 = .ok (.iload_n 1, 1) := by decide +kernel
theorem dX11_init_95 : decode cX11_init 95 = .ok (.new 9, 3) := by decide +kernel
theorem dX11_init_98 : decode cX11_init 98 = .ok (.dup, 1) := by decide +kernel
theorem dX11_init_99 : decode cX11_init 99 = .ok (.bipush 40, 2) := by decide +kernel
theorem dX11_init_101 : decode cX11_init 101 = .ok (.invokespecial 56, 3) := by decide +kernel
theorem dX11_init_104 : decode cX11_init 104 = .ok (.aastore, 1) := by decide +kernel
theorem dX11_init_105 : decode cX11_init 105 = .ok (.iinc 1 1, 3) := by decide +kernel
theorem dX11_init_108 : decode cX11_init 108 = .ok (.goto (-27), 3) := by decide +kernel
theorem dX11_init_111 : decode cX11_init 111 = .ok (.iconst 0, 1) := by decide +kernel
theorem dX11_init_112 : decode cX11_init 112 = .ok (.istore_n 1, 1) := by decide +kernel
theorem dX11_init_113 : decode cX11_init 113 = .ok (.iload_n 1, 1) := by decide +kernel
theorem dX11_init_114 : decode cX11_init 114 = .ok (.aload_n 0, 1) := by decide +kernel
theorem dX11_init_115 : decode cX11_init 115 = .ok (.getfield 15, 3) := by decide +kernel
theorem dX11_init_118 : decode cX11_init 118 = .ok (.arraylength, 1) := by decide +kernel
theorem dX11_init_119 : decode cX11_init 119 = .ok (.if_icmp .ge 24, 3) := by decide +kernel
theorem dX11_init_122 : decode cX11_init 122 = .ok (.aload_n 0, 1) := by decide +kernel
theorem dX11_init_123 : decode cX11_init 123 = .ok (.getfield 15, 3) := by decide +kernel
theorem dX11_init_126 : decode cX11_init 126 = .ok (.iload_n 1, 1) := by decide +kernel
theorem dX11_init_127 : decode cX11_init 127 = .ok (.new 9, 3) := by decide +kernel
theorem dX11_init_130 : decode cX11_init 130 = .ok (.dup, 1) := by decide +kernel
theorem dX11_init_131 : decode cX11_init 131 = .ok (.bipush 60, 2) := by decide +kernel
theorem dX11_init_133 : decode cX11_init 133 = .ok (.invokespecial 56, 3) := by decide +kernel
theorem dX11_init_136 : decode cX11_init 136 = .ok (.aastore, 1) := by decide +kernel
theorem dX11_init_137 : decode cX11_init 137 = .ok (.iinc 1 1, 3) := by decide +kernel
theorem dX11_init_140 : decode cX11_init 140 = .ok (.goto (-27), 3) := by decide +kernel
theorem dX11_init_143 : decode cX11_init 143 = .ok (.iconst 0, 1) := by decide +kernel
theorem dX11_init_144 : decode cX11_init 144 = .ok (.istore_n 1, 1) := by decide +kernel
theorem dX11_init_145 : decode cX11_init 145 = .ok (.iload_n 1, 1) := by decide +kernel
theorem dX11_init_146 : decode cX11_init 146 = .ok (.aload_n 0, 1) := by decide +kernel
theorem dX11_init_147 : decode cX11_init 147 = .ok (.getfield 20, 3) := by decide +kernel
theorem dX11_init_150 : decode cX11_init 150 = .ok (.arraylength, 1) := by decide +kernel
theorem dX11_init_151 : decode cX11_init 151 = .ok (.if_icmp .ge 23, 3) := by decide +kernel
theorem dX11_init_154 : decode cX11_init 154 = .ok (.aload_n 0, 1) := by decide +kernel
theorem dX11_init_155 : decode cX11_init 155 = .ok (.getfield 20, 3) := by decide +kernel
theorem dX11_init_158 : decode cX11_init 158 = .ok (.iload_n 1, 1) := by decide +kernel
theorem dX11_init_159 : decode cX11_init 159 = .ok (.new 18, 3) := by decide +kernel
theorem dX11_init_162 : decode cX11_init 162 = .ok (.dup, 1) := by decide +kernel
theorem dX11_init_163 : decode cX11_init 163 = .ok (.iconst (-1), 1) := by decide +kernel
theorem dX11_init_164 : decode cX11_init 164 = .ok (.invokespecial 59, 3) := by decide +kernel
theorem dX11_init_167 : decode cX11_init 167 = .ok (.aastore, 1) := by decide +kernel
theorem dX11_init_168 : decode cX11_init 168 = .ok (.iinc 1 1, 3) := by decide +kernel
theorem dX11_init_171 : decode cX11_init 171 = .ok (.goto (-26), 3) := by decide +kernel
theorem dX11_init_174 : decode cX11_init 174 = .ok (.return_, 1) := by decide +kernel
theorem dX11_row_0 : decode cX11_row 0 = .ok (.aload_n 0, 1) := by decide +kernel
theorem dX11_row_1 : decode cX11_row 1 = .ok (.aload_n 0, 1) := by decide +kernel
theorem dX11_row_2 : decode cX11_row 2 = .ok (.getfield 11, 3) := by decide +kernel
theorem dX11_row_5 : decode cX11_row 5 = .ok (.iload_n 1, 1) := by decide +kernel
theorem dX11_row_6 : decode cX11_row 6 = .ok (.invokestatic 60, 3) := by decide +kernel
theorem dX11_row_9 : decode cX11_row 9 = .ok (.iload_n 2, 1) := by decide +kernel
theorem dX11_row_10 : decode cX11_row 10 = .ok (.iconst 0, 1) := by decide +kernel
theorem dX11_row_11 : decode cX11_row 11 = .ok (.invokevirtual 64, 3) := by decide +kernel
theorem dX11_row_14 : decode cX11_row 14 = .ok (.ireturn, 1) := by decide +kernel
theorem dX11_lay_0 : decode cX11_lay 0 = .ok (.aload_n 0, 1) := by decide +kernel
theorem dX11_lay_1 : decode cX11_lay 1 = .ok (.getfield 11, 3) := by decide +kernel
theorem dX11_lay_4 : decode cX11_lay 4 = .ok (.iload_n 1, 1) := by decide +kernel
theorem dX11_lay_5 : decode cX11_lay 5 = .ok (.invokestatic 60, 3) := by decide +kernel
theorem dX11_lay_8 : decode cX11_lay 8 = .ok (.astore 4, 2) := by decide +kernel
theorem dX11_lay_10 : decode cX11_lay 10 = .ok (.aload_n 0, 1) := by decide +kernel
theorem dX11_lay_11 : decode cX11_lay 11 = .ok (.aload 4, 2) := by decide +kernel
theorem dX11_lay_13 : decode cX11_lay 13 = .ok (.iload_n 2, 1) := by decide +kernel
theorem dX11_lay_14 : decode cX11_lay 14 = .ok (.invokevirtual 68, 3) := by decide +kernel
theorem dX11_lay_17 : decode cX11_lay 17 = .ok (.istore 5, 2) := by decide +kernel
theorem dX11_lay_19 : decode cX11_lay 19 = .ok (.iload 5, 2) := by decide +kernel
theorem dX11_lay_21 : decode cX11_lay 21 = .ok (.ifCond .eq 6, 3) := by decide +kernel
theorem dX11_lay_24 : decode cX11_lay 24 = .ok (.iload 5, 2) := by decide +kernel
theorem dX11_lay_26 : decode cX11_lay 26 = .ok (.ireturn, 1) := by decide +kernel
theorem dX11_lay_27 : decode cX11_lay 27 = .ok (.aload_n 0, 1) := by decide +kernel
theorem dX11_lay_28 : decode cX11_lay 28 = .ok (.aload 4, 2) := by decide +kernel
theorem dX11_lay_30 : decode cX11_lay 30 = .ok (.getfield 72, 3) := by decide +kernel
theorem dX11_lay_33 : decode cX11_lay 33 = .ok (.iload_n 2, 1) := by decide +kernel
theorem dX11_lay_34 : decode cX11_lay 34 = .ok (.iaload, 1) := by decide +kernel
theorem dX11_lay_35 : decode cX11_lay 35 = .ok (.invokevirtual 75, 3) := by decide +kernel
theorem dX11_lay_38 : decode cX11_lay 38 = .ok (.aload 4, 2) := by decide +kernel
theorem dX11_lay_40 : decode cX11_lay 40 = .ok (.getfield 72, 3) := by decide +kernel
theorem dX11_lay_43 : decode cX11_lay 43 = .ok (.iload_n 2, 1) := by decide +kernel
theorem dX11_lay_44 : decode cX11_lay 44 = .ok (.iload_n 3, 1) := by decide +kernel
theorem dX11_lay_45 : decode cX11_lay 45 = .ok (.iastore, 1) := by decide +kernel
theorem dX11_lay_46 : decode cX11_lay 46 = .ok (.iconst 1, 1) := by decide +kernel
theorem dX11_lay_47 : decode cX11_lay 47 = .ok (.ireturn, 1) := by decide +kernel
theorem dX11_at_0 : decode cX11_at 0 = .ok (.aload_n 0, 1) := by decide +kernel
theorem dX11_at_1 : decode cX11_at 1 = .ok (.getfield 11, 3) := by decide +kernel
theorem dX11_at_4 : decode cX11_at 4 = .ok (.iload_n 1, 1) := by decide +kernel
theorem dX11_at_5 : decode cX11_at 5 = .ok (.invokestatic 60, 3) := by decide +kernel
theorem dX11_at_8 : decode cX11_at 8 = .ok (.astore_n 3, 1) := by decide +kernel
theorem dX11_at_9 : decode cX11_at 9 = .ok (.aload_n 0, 1) := by decide +kernel
theorem dX11_at_10 : decode cX11_at 10 = .ok (.aload_n 3, 1) := by decide +kernel
theorem dX11_at_11 : decode cX11_at 11 = .ok (.iload_n 2, 1) := by decide +kernel
theorem dX11_at_12 : decode cX11_at 12 = .ok (.invokevirtual 68, 3) := by decide +kernel
theorem dX11_at_15 : decode cX11_at 15 = .ok (.istore 4, 2) := by decide +kernel
theorem dX11_at_17 : decode cX11_at 17 = .ok (.iload 4, 2) := by decide +kernel
theorem dX11_at_19 : decode cX11_at 19 = .ok (.ifCond .eq 6, 3) := by decide +kernel
theorem dX11_at_22 : decode cX11_at 22 = .ok (.iload 4, 2) := by decide +kernel
theorem dX11_at_24 : decode cX11_at 24 = .ok (.ireturn, 1) := by decide +kernel
theorem dX11_at_25 : decode cX11_at 25 = .ok (.aload_n 0, 1) := by decide +kernel
theorem dX11_at_26 : decode cX11_at 26 = .ok (.aload_n 3, 1) := by decide +kernel
theorem dX11_at_27 : decode cX11_at 27 = .ok (.getfield 72, 3) := by decide +kernel
theorem dX11_at_30 : decode cX11_at 30 = .ok (.iload_n 2, 1) := by decide +kernel
theorem dX11_at_31 : decode cX11_at 31 = .ok (.iaload, 1) := by decide +kernel
theorem dX11_at_32 : decode cX11_at 32 = .ok (.invokevirtual 75, 3) := by decide +kernel
theorem dX11_at_35 : decode cX11_at 35 = .ok (.iconst 1, 1) := by decide +kernel
theorem dX11_at_36 : decode cX11_at 36 = .ok (.ireturn, 1) := by decide +kernel
theorem dX11_tear_0 : decode cX11_tear 0 = .ok (.aload_n 0, 1) := by decide +kernel
theorem dX11_tear_1 : decode cX11_tear 1 = .ok (.getfield 11, 3) := by decide +kernel
theorem dX11_tear_4 : decode cX11_tear 4 = .ok (.iload_n 1, 1) := by decide +kernel
theorem dX11_tear_5 : decode cX11_tear 5 = .ok (.invokestatic 60, 3) := by decide +kernel
theorem dX11_tear_8 : decode cX11_tear 8 = .ok (.astore_n 2, 1) := by decide +kernel
theorem dX11_tear_9 : decode cX11_tear 9 = .ok (.aload_n 0, 1) := by decide +kernel
theorem dX11_tear_10 : decode cX11_tear 10 = .ok (.aload_n 2, 1) := by decide +kernel
theorem dX11_tear_11 : decode cX11_tear 11 = .ok (.invokevirtual 78, 3) := by decide +kernel
theorem dX11_tear_14 : decode cX11_tear 14 = .ok (.istore_n 3, 1) := by decide +kernel
theorem dX11_tear_15 : decode cX11_tear 15 = .ok (.iload_n 3, 1) := by decide +kernel
theorem dX11_tear_16 : decode cX11_tear 16 = .ok (.ifCond .eq 5, 3) := by decide +kernel
theorem dX11_tear_19 : decode cX11_tear 19 = .ok (.iload_n 3, 1) := by decide +kernel
theorem dX11_tear_20 : decode cX11_tear 20 = .ok (.ireturn, 1) := by decide +kernel
theorem dX11_tear_21 : decode cX11_tear 21 = .ok (.aload_n 2, 1) := by decide +kernel
theorem dX11_tear_22 : decode cX11_tear 22 = .ok (.iconst (-1), 1) := by decide +kernel
theorem dX11_tear_23 : decode cX11_tear 23 = .ok (.putfield 82, 3) := by decide +kernel
theorem dX11_tear_26 : decode cX11_tear 26 = .ok (.iconst 1, 1) := by decide +kernel
theorem dX11_tear_27 : decode cX11_tear 27 = .ok (.ireturn, 1) := by decide +kernel
theorem dX11_copy_0 : decode cX11_copy 0 = .ok (.aload_n 0, 1) := by decide +kernel
theorem dX11_copy_1 : decode cX11_copy 1 = .ok (.getfield 11, 3) := by decide +kernel
theorem dX11_copy_4 : decode cX11_copy 4 = .ok (.iload_n 1, 1) := by decide +kernel
theorem dX11_copy_5 : decode cX11_copy 5 = .ok (.invokestatic 60, 3) := by decide +kernel
theorem dX11_copy_8 : decode cX11_copy 8 = .ok (.astore 6, 2) := by decide +kernel
theorem dX11_copy_10 : decode cX11_copy 10 = .ok (.aload_n 0, 1) := by decide +kernel
theorem dX11_copy_11 : decode cX11_copy 11 = .ok (.getfield 11, 3) := by decide +kernel
theorem dX11_copy_14 : decode cX11_copy 14 = .ok (.iload_n 3, 1) := by decide +kernel
theorem dX11_copy_15 : decode cX11_copy 15 = .ok (.invokestatic 60, 3) := by decide +kernel
theorem dX11_copy_18 : decode cX11_copy 18 = .ok (.astore 7, 2) := by decide +kernel
theorem dX11_copy_20 : decode cX11_copy 20 = .ok (.aload 6, 2) := by decide +kernel
theorem dX11_copy_22 : decode cX11_copy 22 = .ok (.ifnull 8, 3) := by decide +kernel
theorem dX11_copy_25 : decode cX11_copy 25 = .ok (.aload 7, 2) := by decide +kernel
theorem dX11_copy_27 : decode cX11_copy 27 = .ok (.ifnonnull 5, 3) := by decide +kernel
theorem dX11_copy_30 : decode cX11_copy 30 = .ok (.iconst (-1), 1) := by decide +kernel
theorem dX11_copy_31 : decode cX11_copy 31 = .ok (.ireturn, 1) := by decide +kernel
theorem dX11_copy_32 : decode cX11_copy 32 = .ok (.iload 5, 2) := by decide +kernel
theorem dX11_copy_34 : decode cX11_copy 34 = .ok (.ifCond .ge 9, 3) := by decide +kernel
theorem dX11_copy_37 : decode cX11_copy 37 = .ok (.aload_n 0, 1) := by decide +kernel
theorem dX11_copy_38 : decode cX11_copy 38 = .ok (.iconst 5, 1) := by decide +kernel
theorem dX11_copy_39 : decode cX11_copy 39 = .ok (.invokevirtual 85, 3) := by decide +kernel
theorem dX11_copy_42 : decode cX11_copy 42 = .ok (.ireturn, 1) := by decide +kernel
theorem dX11_copy_43 : decode cX11_copy 43 = .ok (.aload 6, 2) := by decide +kernel
theorem dX11_copy_45 : decode cX11_copy 45 = .ok (.invokevirtual 89, 3) := by decide +kernel
theorem dX11_copy_48 : decode cX11_copy 48 = .ok (.ifCond .ne 11, 3) := by decide +kernel
theorem dX11_copy_51 : decode cX11_copy 51 = .ok (.aload 7, 2) := by decide +kernel
theorem dX11_copy_53 : decode cX11_copy 53 = .ok (.invokevirtual 89, 3) := by decide +kernel
theorem dX11_copy_56 : decode cX11_copy 56 = .ok (.ifCond .eq 9, 3) := by decide +kernel
theorem dX11_copy_59 : decode cX11_copy 59 = .ok (.aload_n 0, 1) := by decide +kernel
theorem dX11_copy_60 : decode cX11_copy 60 = .ok (.iconst 1, 1) := by decide +kernel
theorem dX11_copy_61 : decode cX11_copy 61 = .ok (.invokevirtual 85, 3) := by decide +kernel
theorem dX11_copy_64 : decode cX11_copy 64 = .ok (.ireturn, 1) := by decide +kernel
theorem dX11_copy_65 : decode cX11_copy 65 = .ok (.aload 6, 2) := by decide +kernel
theorem dX11_copy_67 : decode cX11_copy 67 = .ok (.iload_n 2, 1) := by decide +kernel
theorem dX11_copy_68 : decode cX11_copy 68 = .ok (.iload 5, 2) := by decide +kernel
theorem dX11_copy_70 : decode cX11_copy 70 = .ok (.invokevirtual 93, 3) := by decide +kernel
theorem dX11_copy_73 : decode cX11_copy 73 = .ok (.ifCond .eq 15, 3) := by decide +kernel
theorem dX11_copy_76 : decode cX11_copy 76 = .ok (.aload 7, 2) := by decide +kernel
theorem dX11_copy_78 : decode cX11_copy 78 = .ok (.iload 4, 2) := by decide +kernel
theorem dX11_copy_80 : decode cX11_copy 80 = .ok (.iload 5, 2) := by decide +kernel
theorem dX11_copy_82 : decode cX11_copy 82 = .ok (.invokevirtual 93, 3) := by decide +kernel
theorem dX11_copy_85 : decode cX11_copy 85 = .ok (.ifCond .ne 9, 3) := by decide +kernel
theorem dX11_copy_88 : decode cX11_copy 88 = .ok (.aload_n 0, 1) := by decide +kernel
theorem dX11_copy_89 : decode cX11_copy 89 = .ok (.iconst 2, 1) := by decide +kernel
theorem dX11_copy_90 : decode cX11_copy 90 = .ok (.invokevirtual 85, 3) := by decide +kernel
theorem dX11_copy_93 : decode cX11_copy 93 = .ok (.ireturn, 1) := by decide +kernel
theorem dX11_copy_94 : decode cX11_copy 94 = .ok (.aload 6, 2) := by decide +kernel
theorem dX11_copy_96 : decode cX11_copy 96 = .ok (.getfield 72, 3) := by decide +kernel
theorem dX11_copy_99 : decode cX11_copy 99 = .ok (.iload_n 2, 1) := by decide +kernel
theorem dX11_copy_100 : decode cX11_copy 100 = .ok (.aload 7, 2) := by decide +kernel
theorem dX11_copy_102 : decode cX11_copy 102 = .ok (.getfield 72, 3) := by decide +kernel
theorem dX11_copy_105 : decode cX11_copy 105 = .ok (.iload 4, 2) := by decide +kernel
theorem dX11_copy_107 : decode cX11_copy 107 = .ok (.iload 5, 2) := by decide +kernel
theorem dX11_copy_109 : decode cX11_copy 109 = .ok (.invokestatic 97, 3) := by decide +kernel
theorem dX11_copy_112 : decode cX11_copy 112 = .ok (.iconst 1, 1) := by decide +kernel
theorem dX11_copy_113 : decode cX11_copy 113 = .ok (.ireturn, 1) := by decide +kernel
theorem dX11_mean_0 : decode cX11_mean 0 = .ok (.aload_n 0, 1) := by decide +kernel
theorem dX11_mean_1 : decode cX11_mean 1 = .ok (.getfield 11, 3) := by decide +kernel
theorem dX11_mean_4 : decode cX11_mean 4 = .ok (.iload_n 1, 1) := by decide +kernel
theorem dX11_mean_5 : decode cX11_mean 5 = .ok (.invokestatic 60, 3) := by decide +kernel
theorem dX11_mean_8 : decode cX11_mean 8 = .ok (.astore_n 2, 1) := by decide +kernel
theorem dX11_mean_9 : decode cX11_mean 9 = .ok (.aload_n 0, 1) := by decide +kernel
theorem dX11_mean_10 : decode cX11_mean 10 = .ok (.aload_n 2, 1) := by decide +kernel
theorem dX11_mean_11 : decode cX11_mean 11 = .ok (.invokevirtual 78, 3) := by decide +kernel
theorem dX11_mean_14 : decode cX11_mean 14 = .ok (.istore_n 3, 1) := by decide +kernel
theorem dX11_mean_15 : decode cX11_mean 15 = .ok (.iload_n 3, 1) := by decide +kernel
theorem dX11_mean_16 : decode cX11_mean 16 = .ok (.ifCond .eq 5, 3) := by decide +kernel
theorem dX11_mean_19 : decode cX11_mean 19 = .ok (.iload_n 3, 1) := by decide +kernel
theorem dX11_mean_20 : decode cX11_mean 20 = .ok (.ireturn, 1) := by decide +kernel
theorem dX11_mean_21 : decode cX11_mean 21 = .ok (.aload_n 2, 1) := by decide +kernel
theorem dX11_mean_22 : decode cX11_mean 22 = .ok (.getfield 82, 3) := by decide +kernel
theorem dX11_mean_25 : decode cX11_mean 25 = .ok (.ifCond .ne 9, 3) := by decide +kernel
theorem dX11_mean_28 : decode cX11_mean 28 = .ok (.aload_n 0, 1) := by decide +kernel
theorem dX11_mean_29 : decode cX11_mean 29 = .ok (.iconst 4, 1) := by decide +kernel
theorem dX11_mean_30 : decode cX11_mean 30 = .ok (.invokevirtual 85, 3) := by decide +kernel
theorem dX11_mean_33 : decode cX11_mean 33 = .ok (.ireturn, 1) := by decide +kernel
theorem dX11_mean_34 : decode cX11_mean 34 = .ok (.aload_n 0, 1) := by decide +kernel
theorem dX11_mean_35 : decode cX11_mean 35 = .ok (.aload_n 2, 1) := by decide +kernel
theorem dX11_mean_36 : decode cX11_mean 36 = .ok (.invokevirtual 103, 3) := by decide +kernel
theorem dX11_mean_39 : decode cX11_mean 39 = .ok (.aload_n 2, 1) := by decide +kernel
theorem dX11_mean_40 : decode cX11_mean 40 = .ok (.getfield 82, 3) := by decide +kernel
theorem dX11_mean_43 : decode cX11_mean 43 = .ok (.i2l, 1) := by decide +kernel
theorem dX11_mean_44 : decode cX11_mean 44 = .ok (.ldiv, 1) := by decide +kernel
theorem dX11_mean_45 : decode cX11_mean 45 = .ok (.l2i, 1) := by decide +kernel
theorem dX11_mean_46 : decode cX11_mean 46 = .ok (.invokevirtual 75, 3) := by decide +kernel
theorem dX11_mean_49 : decode cX11_mean 49 = .ok (.iconst 1, 1) := by decide +kernel
theorem dX11_mean_50 : decode cX11_mean 50 = .ok (.ireturn, 1) := by decide +kernel
theorem dX11_text_0 : decode cX11_text 0 = .ok (.aload_n 0, 1) := by decide +kernel
theorem dX11_text_1 : decode cX11_text 1 = .ok (.aload_n 0, 1) := by decide +kernel
theorem dX11_text_2 : decode cX11_text 2 = .ok (.getfield 15, 3) := by decide +kernel
theorem dX11_text_5 : decode cX11_text 5 = .ok (.iload_n 1, 1) := by decide +kernel
theorem dX11_text_6 : decode cX11_text 6 = .ok (.invokestatic 60, 3) := by decide +kernel
theorem dX11_text_9 : decode cX11_text 9 = .ok (.iload_n 2, 1) := by decide +kernel
theorem dX11_text_10 : decode cX11_text 10 = .ok (.bipush 32, 2) := by decide +kernel
theorem dX11_text_12 : decode cX11_text 12 = .ok (.invokevirtual 64, 3) := by decide +kernel
theorem dX11_text_15 : decode cX11_text 15 = .ok (.ireturn, 1) := by decide +kernel
theorem dX11_put_0 : decode cX11_put 0 = .ok (.aload_n 0, 1) := by decide +kernel
theorem dX11_put_1 : decode cX11_put 1 = .ok (.getfield 15, 3) := by decide +kernel
theorem dX11_put_4 : decode cX11_put 4 = .ok (.iload_n 1, 1) := by decide +kernel
theorem dX11_put_5 : decode cX11_put 5 = .ok (.invokestatic 60, 3) := by decide +kernel
theorem dX11_put_8 : decode cX11_put 8 = .ok (.astore 4, 2) := by decide +kernel
theorem dX11_put_10 : decode cX11_put 10 = .ok (.aload_n 0, 1) := by decide +kernel
theorem dX11_put_11 : decode cX11_put 11 = .ok (.aload 4, 2) := by decide +kernel
theorem dX11_put_13 : decode cX11_put 13 = .ok (.iload_n 2, 1) := by decide +kernel
theorem dX11_put_14 : decode cX11_put 14 = .ok (.invokevirtual 68, 3) := by decide +kernel
theorem dX11_put_17 : decode cX11_put 17 = .ok (.istore 5, 2) := by decide +kernel
theorem dX11_put_19 : decode cX11_put 19 = .ok (.iload 5, 2) := by decide +kernel
theorem dX11_put_21 : decode cX11_put 21 = .ok (.ifCond .eq 6, 3) := by decide +kernel
theorem dX11_put_24 : decode cX11_put 24 = .ok (.iload 5, 2) := by decide +kernel
theorem dX11_put_26 : decode cX11_put 26 = .ok (.ireturn, 1) := by decide +kernel
theorem dX11_put_27 : decode cX11_put 27 = .ok (.aload 4, 2) := by decide +kernel
theorem dX11_put_29 : decode cX11_put 29 = .ok (.getfield 72, 3) := by decide +kernel
theorem dX11_put_32 : decode cX11_put 32 = .ok (.iload_n 2, 1) := by decide +kernel
theorem dX11_put_33 : decode cX11_put 33 = .ok (.iaload, 1) := by decide +kernel
theorem dX11_put_34 : decode cX11_put 34 = .ok (.istore 6, 2) := by decide +kernel
theorem dX11_put_36 : decode cX11_put 36 = .ok (.aload 4, 2) := by decide +kernel
theorem dX11_put_38 : decode cX11_put 38 = .ok (.getfield 72, 3) := by decide +kernel
theorem dX11_put_41 : decode cX11_put 41 = .ok (.iload_n 2, 1) := by decide +kernel
theorem dX11_put_42 : decode cX11_put 42 = .ok (.iload_n 3, 1) := by decide +kernel
theorem dX11_put_43 : decode cX11_put 43 = .ok (.i2b, 1) := by decide +kernel
theorem dX11_put_44 : decode cX11_put 44 = .ok (.iastore, 1) := by decide +kernel
theorem dX11_put_45 : decode cX11_put 45 = .ok (.iload 6, 2) := by decide +kernel
theorem dX11_put_47 : decode cX11_put 47 = .ok (.sipush 1000, 3) := by decide +kernel
theorem dX11_put_50 : decode cX11_put 50 = .ok (.iadd, 1) := by decide +kernel
theorem dX11_put_51 : decode cX11_put 51 = .ok (.ireturn, 1) := by decide +kernel
theorem dX11_fault_0 : decode cX11_fault 0 = .ok (.aload_n 0, 1) := by decide +kernel
theorem dX11_fault_1 : decode cX11_fault 1 = .ok (.getfield 15, 3) := by decide +kernel
theorem dX11_fault_4 : decode cX11_fault 4 = .ok (.iload_n 1, 1) := by decide +kernel
theorem dX11_fault_5 : decode cX11_fault 5 = .ok (.invokestatic 60, 3) := by decide +kernel
theorem dX11_fault_8 : decode cX11_fault 8 = .ok (.astore_n 2, 1) := by decide +kernel
theorem dX11_fault_9 : decode cX11_fault 9 = .ok (.aload_n 0, 1) := by decide +kernel
theorem dX11_fault_10 : decode cX11_fault 10 = .ok (.aload_n 2, 1) := by decide +kernel
theorem dX11_fault_11 : decode cX11_fault 11 = .ok (.invokevirtual 78, 3) := by decide +kernel
theorem dX11_fault_14 : decode cX11_fault 14 = .ok (.istore_n 3, 1) := by decide +kernel
theorem dX11_fault_15 : decode cX11_fault 15 = .ok (.iload_n 3, 1) := by decide +kernel
theorem dX11_fault_16 : decode cX11_fault 16 = .ok (.ifCond .eq 7, 3) := by decide +kernel
theorem dX11_fault_19 : decode cX11_fault 19 = .ok (.iload_n 3, 1) := by decide +kernel
theorem dX11_fault_20 : decode cX11_fault 20 = .ok (.goto 11, 3) := by decide +kernel
theorem dX11_fault_23 : decode cX11_fault 23 = .ok (.aload_n 0, 1) := by decide +kernel
theorem dX11_fault_24 : decode cX11_fault 24 = .ok (.getfield 27, 3) := by decide +kernel
theorem dX11_fault_27 : decode cX11_fault 27 = .ok (.aload_n 2, 1) := by decide +kernel
theorem dX11_fault_28 : decode cX11_fault 28 = .ok (.invokevirtual 107, 3) := by decide +kernel
theorem dX11_fault_31 : decode cX11_fault 31 = .ok (.ireturn, 1) := by decide +kernel
theorem dX11_shed_0 : decode cX11_shed 0 = .ok (.aload_n 0, 1) := by decide +kernel
theorem dX11_shed_1 : decode cX11_shed 1 = .ok (.getfield 15, 3) := by decide +kernel
theorem dX11_shed_4 : decode cX11_shed 4 = .ok (.iload_n 1, 1) := by decide +kernel
theorem dX11_shed_5 : decode cX11_shed 5 = .ok (.invokestatic 60, 3) := by decide +kernel
theorem dX11_shed_8 : decode cX11_shed 8 = .ok (.astore_n 2, 1) := by decide +kernel
theorem dX11_shed_9 : decode cX11_shed 9 = .ok (.aload_n 0, 1) := by decide +kernel
theorem dX11_shed_10 : decode cX11_shed 10 = .ok (.aload_n 2, 1) := by decide +kernel
theorem dX11_shed_11 : decode cX11_shed 11 = .ok (.invokevirtual 78, 3) := by decide +kernel
theorem dX11_shed_14 : decode cX11_shed 14 = .ok (.istore_n 3, 1) := by decide +kernel
theorem dX11_shed_15 : decode cX11_shed 15 = .ok (.iload_n 3, 1) := by decide +kernel
theorem dX11_shed_16 : decode cX11_shed 16 = .ok (.ifCond .eq 5, 3) := by decide +kernel
theorem dX11_shed_19 : decode cX11_shed 19 = .ok (.iload_n 3, 1) := by decide +kernel
theorem dX11_shed_20 : decode cX11_shed 20 = .ok (.ireturn, 1) := by decide +kernel
theorem dX11_shed_21 : decode cX11_shed 21 = .ok (.aload_n 0, 1) := by decide +kernel
theorem dX11_shed_22 : decode cX11_shed 22 = .ok (.getfield 27, 3) := by decide +kernel
theorem dX11_shed_25 : decode cX11_shed 25 = .ok (.aload_n 2, 1) := by decide +kernel
theorem dX11_shed_26 : decode cX11_shed 26 = .ok (.invokevirtual 107, 3) := by decide +kernel
theorem dX11_shed_29 : decode cX11_shed 29 = .ok (.bipush (-9), 2) := by decide +kernel
theorem dX11_shed_31 : decode cX11_shed 31 = .ok (.if_icmp .eq 6, 3) := by decide +kernel
theorem dX11_shed_34 : decode cX11_shed 34 = .ok (.bipush (-4), 2) := by decide +kernel
theorem dX11_shed_36 : decode cX11_shed 36 = .ok (.ireturn, 1) := by decide +kernel
theorem dX11_shed_37 : decode cX11_shed 37 = .ok (.aload_n 0, 1) := by decide +kernel
theorem dX11_shed_38 : decode cX11_shed 38 = .ok (.getfield 34, 3) := by decide +kernel
theorem dX11_shed_41 : decode cX11_shed 41 = .ok (.aload_n 0, 1) := by decide +kernel
theorem dX11_shed_42 : decode cX11_shed 42 = .ok (.getfield 27, 3) := by decide +kernel
theorem dX11_shed_45 : decode cX11_shed 45 = .ok (.invokevirtual 110, 3) := by decide +kernel
theorem dX11_shed_48 : decode cX11_shed 48 = .ok (.iconst 0, 1) := by decide +kernel
theorem dX11_shed_49 : decode cX11_shed 49 = .ok (.istore 4, 2) := by decide +kernel
theorem dX11_shed_51 : decode cX11_shed 51 = .ok (.iload 4, 2) := by decide +kernel
theorem dX11_shed_53 : decode cX11_shed 53 = .ok (.aload_n 0, 1) := by decide +kernel
theorem dX11_shed_54 : decode cX11_shed 54 = .ok (.getfield 20, 3) := by decide +kernel
theorem dX11_shed_57 : decode cX11_shed 57 = .ok (.arraylength, 1) := by decide +kernel
theorem dX11_shed_58 : decode cX11_shed 58 = .ok (.if_icmp .ge 20, 3) := by decide +kernel
theorem dX11_shed_61 : decode cX11_shed 61 = .ok (.aload_n 0, 1) := by decide +kernel
theorem dX11_shed_62 : decode cX11_shed 62 = .ok (.getfield 20, 3) := by decide +kernel
theorem dX11_shed_65 : decode cX11_shed 65 = .ok (.iload 4, 2) := by decide +kernel
theorem dX11_shed_67 : decode cX11_shed 67 = .ok (.aaload, 1) := by decide +kernel
theorem dX11_shed_68 : decode cX11_shed 68 = .ok (.iconst (-1), 1) := by decide +kernel
theorem dX11_shed_69 : decode cX11_shed 69 = .ok (.putfield 114, 3) := by decide +kernel
theorem dX11_shed_72 : decode cX11_shed 72 = .ok (.iinc 4 1, 3) := by decide +kernel
theorem dX11_shed_75 : decode cX11_shed 75 = .ok (.goto (-24), 3) := by decide +kernel
theorem dX11_shed_78 : decode cX11_shed 78 = .ok (.aload_n 0, 1) := by decide +kernel
theorem dX11_shed_79 : decode cX11_shed 79 = .ok (.getfield 34, 3) := by decide +kernel
theorem dX11_shed_82 : decode cX11_shed 82 = .ok (.getfield 115, 3) := by decide +kernel
theorem dX11_shed_85 : decode cX11_shed 85 = .ok (.ireturn, 1) := by decide +kernel
theorem dX11_person_0 : decode cX11_person 0 = .ok (.aload_n 0, 1) := by decide +kernel
theorem dX11_person_1 : decode cX11_person 1 = .ok (.getfield 34, 3) := by decide +kernel
theorem dX11_person_4 : decode cX11_person 4 = .ok (.iload_n 1, 1) := by decide +kernel
theorem dX11_person_5 : decode cX11_person 5 = .ok (.invokevirtual 118, 3) := by decide +kernel
theorem dX11_person_8 : decode cX11_person 8 = .ok (.astore_n 3, 1) := by decide +kernel
theorem dX11_person_9 : decode cX11_person 9 = .ok (.aload_n 3, 1) := by decide +kernel
theorem dX11_person_10 : decode cX11_person 10 = .ok (.ifnull 12, 3) := by decide +kernel
theorem dX11_person_13 : decode cX11_person 13 = .ok (.iload_n 2, 1) := by decide +kernel
theorem dX11_person_14 : decode cX11_person 14 = .ok (.ifCond .lt 8, 3) := by decide +kernel
theorem dX11_person_17 : decode cX11_person 17 = .ok (.iload_n 2, 1) := by decide +kernel
theorem dX11_person_18 : decode cX11_person 18 = .ok (.iconst 3, 1) := by decide +kernel
theorem dX11_person_19 : decode cX11_person 19 = .ok (.if_icmp .le 5, 3) := by decide +kernel
theorem dX11_person_22 : decode cX11_person 22 = .ok (.iconst (-1), 1) := by decide +kernel
theorem dX11_person_23 : decode cX11_person 23 = .ok (.ireturn, 1) := by decide +kernel
theorem dX11_person_24 : decode cX11_person 24 = .ok (.aload_n 0, 1) := by decide +kernel
theorem dX11_person_25 : decode cX11_person 25 = .ok (.aload_n 0, 1) := by decide +kernel
theorem dX11_person_26 : decode cX11_person 26 = .ok (.aload_n 3, 1) := by decide +kernel
theorem dX11_person_27 : decode cX11_person 27 = .ok (.iload_n 1, 1) := by decide +kernel
theorem dX11_person_28 : decode cX11_person 28 = .ok (.iload_n 2, 1) := by decide +kernel
theorem dX11_person_29 : decode cX11_person 29 = .ok (.invokevirtual 122, 3) := by decide +kernel
theorem dX11_person_32 : decode cX11_person 32 = .ok (.invokevirtual 75, 3) := by decide +kernel
theorem dX11_person_35 : decode cX11_person 35 = .ok (.iconst 1, 1) := by decide +kernel
theorem dX11_person_36 : decode cX11_person 36 = .ok (.ireturn, 1) := by decide +kernel
theorem dX11_mark_0 : decode cX11_mark 0 = .ok (.aload_n 0, 1) := by decide +kernel
theorem dX11_mark_1 : decode cX11_mark 1 = .ok (.getfield 34, 3) := by decide +kernel
theorem dX11_mark_4 : decode cX11_mark 4 = .ok (.iload_n 1, 1) := by decide +kernel
theorem dX11_mark_5 : decode cX11_mark 5 = .ok (.invokevirtual 118, 3) := by decide +kernel
theorem dX11_mark_8 : decode cX11_mark 8 = .ok (.astore_n 3, 1) := by decide +kernel
theorem dX11_mark_9 : decode cX11_mark 9 = .ok (.aload_n 3, 1) := by decide +kernel
theorem dX11_mark_10 : decode cX11_mark 10 = .ok (.ifnull 12, 3) := by decide +kernel
theorem dX11_mark_13 : decode cX11_mark 13 = .ok (.iload_n 2, 1) := by decide +kernel
theorem dX11_mark_14 : decode cX11_mark 14 = .ok (.ifCond .le 8, 3) := by decide +kernel
theorem dX11_mark_17 : decode cX11_mark 17 = .ok (.iload_n 2, 1) := by decide +kernel
theorem dX11_mark_18 : decode cX11_mark 18 = .ok (.iconst 5, 1) := by decide +kernel
theorem dX11_mark_19 : decode cX11_mark 19 = .ok (.if_icmp .le 5, 3) := by decide +kernel
theorem dX11_mark_22 : decode cX11_mark 22 = .ok (.iconst (-1), 1) := by decide +kernel
theorem dX11_mark_23 : decode cX11_mark 23 = .ok (.ireturn, 1) := by decide +kernel
theorem dX11_mark_24 : decode cX11_mark 24 = .ok (.iload_n 2, 1) := by decide +kernel
theorem dX11_mark_25 : decode cX11_mark 25 = .ok (.iconst 1, 1) := by decide +kernel
theorem dX11_mark_26 : decode cX11_mark 26 = .ok (.if_icmp .ne 22, 3) := by decide +kernel
theorem dX11_mark_29 : decode cX11_mark 29 = .ok (.aload_n 3, 1) := by decide +kernel
theorem dX11_mark_30 : decode cX11_mark 30 = .ok (.instanceof 126, 3) := by decide +kernel
theorem dX11_mark_33 : decode cX11_mark 33 = .ok (.ifCond .eq 15, 3) := by decide +kernel
theorem dX11_mark_36 : decode cX11_mark 36 = .ok (.aload_n 3, 1) := by decide +kernel
theorem dX11_mark_37 : decode cX11_mark 37 = .ok (.checkcast 126, 3) := by decide +kernel
theorem dX11_mark_40 : decode cX11_mark 40 = .ok (.astore 4, 2) := by decide +kernel
theorem dX11_mark_42 : decode cX11_mark 42 = .ok (.aload 4, 2) := by decide +kernel
theorem dX11_mark_44 : decode cX11_mark 44 = .ok (.invokevirtual 128, 3) := by decide +kernel
theorem dX11_mark_47 : decode cX11_mark 47 = .ok (.ireturn, 1) := by decide +kernel
theorem dX11_mark_48 : decode cX11_mark 48 = .ok (.iload_n 2, 1) := by decide +kernel
theorem dX11_mark_49 : decode cX11_mark 49 = .ok (.iconst 2, 1) := by decide +kernel
theorem dX11_mark_50 : decode cX11_mark 50 = .ok (.if_icmp .ne 22, 3) := by decide +kernel
theorem dX11_mark_53 : decode cX11_mark 53 = .ok (.aload_n 3, 1) := by decide +kernel
theorem dX11_mark_54 : decode cX11_mark 54 = .ok (.instanceof 132, 3) := by decide +kernel
theorem dX11_mark_57 : decode cX11_mark 57 = .ok (.ifCond .eq 15, 3) := by decide +kernel
theorem dX11_mark_60 : decode cX11_mark 60 = .ok (.aload_n 3, 1) := by decide +kernel
theorem dX11_mark_61 : decode cX11_mark 61 = .ok (.checkcast 132, 3) := by decide +kernel
theorem dX11_mark_64 : decode cX11_mark 64 = .ok (.astore 4, 2) := by decide +kernel
theorem dX11_mark_66 : decode cX11_mark 66 = .ok (.aload 4, 2) := by decide +kernel
theorem dX11_mark_68 : decode cX11_mark 68 = .ok (.invokevirtual 134, 3) := by decide +kernel
theorem dX11_mark_71 : decode cX11_mark 71 = .ok (.ireturn, 1) := by decide +kernel
theorem dX11_mark_72 : decode cX11_mark 72 = .ok (.iload_n 2, 1) := by decide +kernel
theorem dX11_mark_73 : decode cX11_mark 73 = .ok (.iconst 3, 1) := by decide +kernel
theorem dX11_mark_74 : decode cX11_mark 74 = .ok (.if_icmp .ne 18, 3) := by decide +kernel
theorem dX11_mark_77 : decode cX11_mark 77 = .ok (.aload_n 3, 1) := by decide +kernel
theorem dX11_mark_78 : decode cX11_mark 78 = .ok (.instanceof 137, 3) := by decide +kernel
theorem dX11_mark_81 : decode cX11_mark 81 = .ok (.ifCond .eq 11, 3) := by decide +kernel
theorem dX11_mark_84 : decode cX11_mark 84 = .ok (.aload_n 0, 1) := by decide +kernel
theorem dX11_mark_85 : decode cX11_mark 85 = .ok (.getfield 34, 3) := by decide +kernel
theorem dX11_mark_88 : decode cX11_mark 88 = .ok (.invokevirtual 139, 3) := by decide +kernel
theorem dX11_mark_91 : decode cX11_mark 91 = .ok (.ireturn, 1) := by decide +kernel
theorem dX11_mark_92 : decode cX11_mark 92 = .ok (.iload_n 2, 1) := by decide +kernel
theorem dX11_mark_93 : decode cX11_mark 93 = .ok (.iconst 4, 1) := by decide +kernel
theorem dX11_mark_94 : decode cX11_mark 94 = .ok (.if_icmp .ne 22, 3) := by decide +kernel
theorem dX11_mark_97 : decode cX11_mark 97 = .ok (.aload_n 3, 1) := by decide +kernel
theorem dX11_mark_98 : decode cX11_mark 98 = .ok (.instanceof 142, 3) := by decide +kernel
theorem dX11_mark_101 : decode cX11_mark 101 = .ok (.ifCond .eq 15, 3) := by decide +kernel
theorem dX11_mark_104 : decode cX11_mark 104 = .ok (.aload_n 3, 1) := by decide +kernel
theorem dX11_mark_105 : decode cX11_mark 105 = .ok (.checkcast 142, 3) := by decide +kernel
theorem dX11_mark_108 : decode cX11_mark 108 = .ok (.astore 4, 2) := by decide +kernel
theorem dX11_mark_110 : decode cX11_mark 110 = .ok (.aload 4, 2) := by decide +kernel
theorem dX11_mark_112 : decode cX11_mark 112 = .ok (.invokevirtual 144, 3) := by decide +kernel
theorem dX11_mark_115 : decode cX11_mark 115 = .ok (.ireturn, 1) := by decide +kernel
theorem dX11_mark_116 : decode cX11_mark 116 = .ok (.iload_n 2, 1) := by decide +kernel
theorem dX11_mark_117 : decode cX11_mark 117 = .ok (.iconst 5, 1) := by decide +kernel
theorem dX11_mark_118 : decode cX11_mark 118 = .ok (.if_icmp .ne 22, 3) := by decide +kernel
theorem dX11_mark_121 : decode cX11_mark 121 = .ok (.aload_n 3, 1) := by decide +kernel
theorem dX11_mark_122 : decode cX11_mark 122 = .ok (.instanceof 147, 3) := by decide +kernel
theorem dX11_mark_125 : decode cX11_mark 125 = .ok (.ifCond .eq 15, 3) := by decide +kernel
theorem dX11_mark_128 : decode cX11_mark 128 = .ok (.aload_n 3, 1) := by decide +kernel
theorem dX11_mark_129 : decode cX11_mark 129 = .ok (.checkcast 147, 3) := by decide +kernel
theorem dX11_mark_132 : decode cX11_mark 132 = .ok (.astore 4, 2) := by decide +kernel
theorem dX11_mark_134 : decode cX11_mark 134 = .ok (.aload 4, 2) := by decide +kernel
theorem dX11_mark_136 : decode cX11_mark 136 = .ok (.invokevirtual 149, 3) := by decide +kernel
theorem dX11_mark_139 : decode cX11_mark 139 = .ok (.ireturn, 1) := by decide +kernel
theorem dX11_mark_140 : decode cX11_mark 140 = .ok (.aload_n 0, 1) := by decide +kernel
theorem dX11_mark_141 : decode cX11_mark 141 = .ok (.iconst 3, 1) := by decide +kernel
theorem dX11_mark_142 : decode cX11_mark 142 = .ok (.invokevirtual 85, 3) := by decide +kernel
theorem dX11_mark_145 : decode cX11_mark 145 = .ok (.ireturn, 1) := by decide +kernel
theorem dX11_flicks_0 : decode cX11_flicks 0 = .ok (.aload_n 0, 1) := by decide +kernel
theorem dX11_flicks_1 : decode cX11_flicks 1 = .ok (.getfield 34, 3) := by decide +kernel
theorem dX11_flicks_4 : decode cX11_flicks 4 = .ok (.iload_n 1, 1) := by decide +kernel
theorem dX11_flicks_5 : decode cX11_flicks 5 = .ok (.invokevirtual 118, 3) := by decide +kernel
theorem dX11_flicks_8 : decode cX11_flicks 8 = .ok (.astore_n 3, 1) := by decide +kernel
theorem dX11_flicks_9 : decode cX11_flicks 9 = .ok (.aload_n 3, 1) := by decide +kernel
theorem dX11_flicks_10 : decode cX11_flicks 10 = .ok (.ifnull 13, 3) := by decide +kernel
theorem dX11_flicks_13 : decode cX11_flicks 13 = .ok (.iload_n 2, 1) := by decide +kernel
theorem dX11_flicks_14 : decode cX11_flicks 14 = .ok (.iconst 1, 1) := by decide +kernel
theorem dX11_flicks_15 : decode cX11_flicks 15 = .ok (.if_icmp .lt 8, 3) := by decide +kernel
theorem dX11_flicks_18 : decode cX11_flicks 18 = .ok (.iload_n 2, 1) := by decide +kernel
theorem dX11_flicks_19 : decode cX11_flicks 19 = .ok (.iconst 3, 1) := by decide +kernel
theorem dX11_flicks_20 : decode cX11_flicks 20 = .ok (.if_icmp .le 5, 3) := by decide +kernel
theorem dX11_flicks_23 : decode cX11_flicks 23 = .ok (.iconst (-1), 1) := by decide +kernel
theorem dX11_flicks_24 : decode cX11_flicks 24 = .ok (.ireturn, 1) := by decide +kernel
theorem dX11_flicks_25 : decode cX11_flicks 25 = .ok (.aload_n 0, 1) := by decide +kernel
theorem dX11_flicks_26 : decode cX11_flicks 26 = .ok (.getfield 34, 3) := by decide +kernel
theorem dX11_flicks_29 : decode cX11_flicks 29 = .ok (.getfield 152, 3) := by decide +kernel
theorem dX11_flicks_32 : decode cX11_flicks 32 = .ok (.getfield 114, 3) := by decide +kernel
theorem dX11_flicks_35 : decode cX11_flicks 35 = .ok (.ifCond .le 6, 3) := by decide +kernel
theorem dX11_flicks_38 : decode cX11_flicks 38 = .ok (.bipush (-4), 2) := by decide +kernel
theorem dX11_flicks_40 : decode cX11_flicks 40 = .ok (.ireturn, 1) := by decide +kernel
theorem dX11_flicks_41 : decode cX11_flicks 41 = .ok (.aload_n 3, 1) := by decide +kernel
theorem dX11_flicks_42 : decode cX11_flicks 42 = .ok (.getfield 156, 3) := by decide +kernel
theorem dX11_flicks_45 : decode cX11_flicks 45 = .ok (.istore 4, 2) := by decide +kernel
theorem dX11_flicks_47 : decode cX11_flicks 47 = .ok (.aload_n 0, 1) := by decide +kernel
theorem dX11_flicks_48 : decode cX11_flicks 48 = .ok (.getfield 34, 3) := by decide +kernel
theorem dX11_flicks_51 : decode cX11_flicks 51 = .ok (.iload_n 1, 1) := by decide +kernel
theorem dX11_flicks_52 : decode cX11_flicks 52 = .ok (.iload_n 2, 1) := by decide +kernel
theorem dX11_flicks_53 : decode cX11_flicks 53 = .ok (.invokevirtual 161, 3) := by decide +kernel
theorem dX11_flicks_56 : decode cX11_flicks 56 = .ok (.iload 4, 2) := by decide +kernel
theorem dX11_flicks_58 : decode cX11_flicks 58 = .ok (.ireturn, 1) := by decide +kernel
theorem dX11_look_0 : decode cX11_look 0 = .ok (.aload_n 0, 1) := by decide +kernel
theorem dX11_look_1 : decode cX11_look 1 = .ok (.getfield 34, 3) := by decide +kernel
theorem dX11_look_4 : decode cX11_look 4 = .ok (.iload_n 1, 1) := by decide +kernel
theorem dX11_look_5 : decode cX11_look 5 = .ok (.invokevirtual 118, 3) := by decide +kernel
theorem dX11_look_8 : decode cX11_look 8 = .ok (.ifnull 17, 3) := by decide +kernel
theorem dX11_look_11 : decode cX11_look 11 = .ok (.aload_n 0, 1) := by decide +kernel
theorem dX11_look_12 : decode cX11_look 12 = .ok (.getfield 34, 3) := by decide +kernel
theorem dX11_look_15 : decode cX11_look 15 = .ok (.getfield 165, 3) := by decide +kernel
theorem dX11_look_18 : decode cX11_look 18 = .ok (.iload_n 2, 1) := by decide +kernel
theorem dX11_look_19 : decode cX11_look 19 = .ok (.invokevirtual 169, 3) := by decide +kernel
theorem dX11_look_22 : decode cX11_look 22 = .ok (.ifCond .ne 5, 3) := by decide +kernel
theorem dX11_look_25 : decode cX11_look 25 = .ok (.iconst (-1), 1) := by decide +kernel
theorem dX11_look_26 : decode cX11_look 26 = .ok (.ireturn, 1) := by decide +kernel
theorem dX11_look_27 : decode cX11_look 27 = .ok (.aload_n 0, 1) := by decide +kernel
theorem dX11_look_28 : decode cX11_look 28 = .ok (.getfield 34, 3) := by decide +kernel
theorem dX11_look_31 : decode cX11_look 31 = .ok (.iload_n 1, 1) := by decide +kernel
theorem dX11_look_32 : decode cX11_look 32 = .ok (.iload_n 2, 1) := by decide +kernel
theorem dX11_look_33 : decode cX11_look 33 = .ok (.invokevirtual 175, 3) := by decide +kernel
theorem dX11_look_36 : decode cX11_look 36 = .ok (.ifCond .ne 9, 3) := by decide +kernel
theorem dX11_look_39 : decode cX11_look 39 = .ok (.aload_n 0, 1) := by decide +kernel
theorem dX11_look_40 : decode cX11_look 40 = .ok (.iconst 4, 1) := by decide +kernel
theorem dX11_look_41 : decode cX11_look 41 = .ok (.invokevirtual 85, 3) := by decide +kernel
theorem dX11_look_44 : decode cX11_look 44 = .ok (.ireturn, 1) := by decide +kernel
theorem dX11_look_45 : decode cX11_look 45 = .ok (.aload_n 0, 1) := by decide +kernel
theorem dX11_look_46 : decode cX11_look 46 = .ok (.getfield 34, 3) := by decide +kernel
theorem dX11_look_49 : decode cX11_look 49 = .ok (.getfield 152, 3) := by decide +kernel
theorem dX11_look_52 : decode cX11_look 52 = .ok (.invokevirtual 179, 3) := by decide +kernel
theorem dX11_look_55 : decode cX11_look 55 = .ok (.ifCond .eq 6, 3) := by decide +kernel
theorem dX11_look_58 : decode cX11_look 58 = .ok (.bipush (-2), 2) := by decide +kernel
theorem dX11_look_60 : decode cX11_look 60 = .ok (.ireturn, 1) := by decide +kernel
theorem dX11_look_61 : decode cX11_look 61 = .ok (.aload_n 0, 1) := by decide +kernel
theorem dX11_look_62 : decode cX11_look 62 = .ok (.getfield 34, 3) := by decide +kernel
theorem dX11_look_65 : decode cX11_look 65 = .ok (.iload_n 1, 1) := by decide +kernel
theorem dX11_look_66 : decode cX11_look 66 = .ok (.iload_n 2, 1) := by decide +kernel
theorem dX11_look_67 : decode cX11_look 67 = .ok (.invokevirtual 182, 3) := by decide +kernel
theorem dX11_look_70 : decode cX11_look 70 = .ok (.aload_n 0, 1) := by decide +kernel
theorem dX11_look_71 : decode cX11_look 71 = .ok (.getfield 34, 3) := by decide +kernel
theorem dX11_look_74 : decode cX11_look 74 = .ok (.invokevirtual 139, 3) := by decide +kernel
theorem dX11_look_77 : decode cX11_look 77 = .ok (.ireturn, 1) := by decide +kernel
theorem dX11_vain_0 : decode cX11_vain 0 = .ok (.aload_n 0, 1) := by decide +kernel
theorem dX11_vain_1 : decode cX11_vain 1 = .ok (.getfield 34, 3) := by decide +kernel
theorem dX11_vain_4 : decode cX11_vain 4 = .ok (.getfield 165, 3) := by decide +kernel
theorem dX11_vain_7 : decode cX11_vain 7 = .ok (.iload_n 1, 1) := by decide +kernel
theorem dX11_vain_8 : decode cX11_vain 8 = .ok (.invokevirtual 169, 3) := by decide +kernel
theorem dX11_vain_11 : decode cX11_vain 11 = .ok (.ifCond .ne 5, 3) := by decide +kernel
theorem dX11_vain_14 : decode cX11_vain 14 = .ok (.iconst (-1), 1) := by decide +kernel
theorem dX11_vain_15 : decode cX11_vain 15 = .ok (.ireturn, 1) := by decide +kernel
theorem dX11_vain_16 : decode cX11_vain 16 = .ok (.aload_n 0, 1) := by decide +kernel
theorem dX11_vain_17 : decode cX11_vain 17 = .ok (.getfield 34, 3) := by decide +kernel
theorem dX11_vain_20 : decode cX11_vain 20 = .ok (.iload_n 1, 1) := by decide +kernel
theorem dX11_vain_21 : decode cX11_vain 21 = .ok (.invokevirtual 185, 3) := by decide +kernel
theorem dX11_vain_24 : decode cX11_vain 24 = .ok (.ifCond .ne 9, 3) := by decide +kernel
theorem dX11_vain_27 : decode cX11_vain 27 = .ok (.aload_n 0, 1) := by decide +kernel
theorem dX11_vain_28 : decode cX11_vain 28 = .ok (.iconst 4, 1) := by decide +kernel
theorem dX11_vain_29 : decode cX11_vain 29 = .ok (.invokevirtual 85, 3) := by decide +kernel
theorem dX11_vain_32 : decode cX11_vain 32 = .ok (.ireturn, 1) := by decide +kernel
theorem dX11_vain_33 : decode cX11_vain 33 = .ok (.aload_n 0, 1) := by decide +kernel
theorem dX11_vain_34 : decode cX11_vain 34 = .ok (.getfield 34, 3) := by decide +kernel
theorem dX11_vain_37 : decode cX11_vain 37 = .ok (.getfield 152, 3) := by decide +kernel
theorem dX11_vain_40 : decode cX11_vain 40 = .ok (.invokevirtual 179, 3) := by decide +kernel
theorem dX11_vain_43 : decode cX11_vain 43 = .ok (.ifCond .eq 6, 3) := by decide +kernel
theorem dX11_vain_46 : decode cX11_vain 46 = .ok (.bipush (-2), 2) := by decide +kernel
theorem dX11_vain_48 : decode cX11_vain 48 = .ok (.ireturn, 1) := by decide +kernel
theorem dX11_vain_49 : decode cX11_vain 49 = .ok (.aload_n 0, 1) := by decide +kernel
theorem dX11_vain_50 : decode cX11_vain 50 = .ok (.getfield 34, 3) := by decide +kernel
theorem dX11_vain_53 : decode cX11_vain 53 = .ok (.iconst (-1), 1) := by decide +kernel
theorem dX11_vain_54 : decode cX11_vain 54 = .ok (.iload_n 1, 1) := by decide +kernel
theorem dX11_vain_55 : decode cX11_vain 55 = .ok (.invokevirtual 182, 3) := by decide +kernel
theorem dX11_vain_58 : decode cX11_vain 58 = .ok (.aload_n 0, 1) := by decide +kernel
theorem dX11_vain_59 : decode cX11_vain 59 = .ok (.getfield 34, 3) := by decide +kernel
theorem dX11_vain_62 : decode cX11_vain 62 = .ok (.invokevirtual 139, 3) := by decide +kernel
theorem dX11_vain_65 : decode cX11_vain 65 = .ok (.ireturn, 1) := by decide +kernel
theorem dX11_undo_0 : decode cX11_undo 0 = .ok (.aload_n 0, 1) := by decide +kernel
theorem dX11_undo_1 : decode cX11_undo 1 = .ok (.getfield 34, 3) := by decide +kernel
theorem dX11_undo_4 : decode cX11_undo 4 = .ok (.getfield 152, 3) := by decide +kernel
theorem dX11_undo_7 : decode cX11_undo 7 = .ok (.getfield 114, 3) := by decide +kernel
theorem dX11_undo_10 : decode cX11_undo 10 = .ok (.istore_n 2, 1) := by decide +kernel
theorem dX11_undo_11 : decode cX11_undo 11 = .ok (.iload_n 1, 1) := by decide +kernel
theorem dX11_undo_12 : decode cX11_undo 12 = .ok (.ifCond .lt 8, 3) := by decide +kernel
theorem dX11_undo_15 : decode cX11_undo 15 = .ok (.iload_n 1, 1) := by decide +kernel
theorem dX11_undo_16 : decode cX11_undo 16 = .ok (.iload_n 2, 1) := by decide +kernel
theorem dX11_undo_17 : decode cX11_undo 17 = .ok (.if_icmp .le 5, 3) := by decide +kernel
theorem dX11_undo_20 : decode cX11_undo 20 = .ok (.iconst (-1), 1) := by decide +kernel
theorem dX11_undo_21 : decode cX11_undo 21 = .ok (.ireturn, 1) := by decide +kernel
theorem dX11_undo_22 : decode cX11_undo 22 = .ok (.aload_n 0, 1) := by decide +kernel
theorem dX11_undo_23 : decode cX11_undo 23 = .ok (.getfield 34, 3) := by decide +kernel
theorem dX11_undo_26 : decode cX11_undo 26 = .ok (.getfield 152, 3) := by decide +kernel
theorem dX11_undo_29 : decode cX11_undo 29 = .ok (.iload_n 1, 1) := by decide +kernel
theorem dX11_undo_30 : decode cX11_undo 30 = .ok (.putfield 114, 3) := by decide +kernel
theorem dX11_undo_33 : decode cX11_undo 33 = .ok (.aload_n 0, 1) := by decide +kernel
theorem dX11_undo_34 : decode cX11_undo 34 = .ok (.getfield 34, 3) := by decide +kernel
theorem dX11_undo_37 : decode cX11_undo 37 = .ok (.invokevirtual 188, 3) := by decide +kernel
theorem dX11_undo_40 : decode cX11_undo 40 = .ok (.iload_n 2, 1) := by decide +kernel
theorem dX11_undo_41 : decode cX11_undo 41 = .ok (.iload_n 1, 1) := by decide +kernel
theorem dX11_undo_42 : decode cX11_undo 42 = .ok (.isub, 1) := by decide +kernel
theorem dX11_undo_43 : decode cX11_undo 43 = .ok (.ireturn, 1) := by decide +kernel
theorem dX11_keep_0 : decode cX11_keep 0 = .ok (.iload_n 1, 1) := by decide +kernel
theorem dX11_keep_1 : decode cX11_keep 1 = .ok (.ifCond .lt 12, 3) := by decide +kernel
theorem dX11_keep_4 : decode cX11_keep 4 = .ok (.iload_n 1, 1) := by decide +kernel
theorem dX11_keep_5 : decode cX11_keep 5 = .ok (.aload_n 0, 1) := by decide +kernel
theorem dX11_keep_6 : decode cX11_keep 6 = .ok (.getfield 20, 3) := by decide +kernel
theorem dX11_keep_9 : decode cX11_keep 9 = .ok (.arraylength, 1) := by decide +kernel
theorem dX11_keep_10 : decode cX11_keep 10 = .ok (.if_icmp .lt 5, 3) := by decide +kernel
theorem dX11_keep_13 : decode cX11_keep 13 = .ok (.iconst (-1), 1) := by decide +kernel
theorem dX11_keep_14 : decode cX11_keep 14 = .ok (.ireturn, 1) := by decide +kernel
theorem dX11_keep_15 : decode cX11_keep 15 = .ok (.aload_n 0, 1) := by decide +kernel
theorem dX11_keep_16 : decode cX11_keep 16 = .ok (.getfield 34, 3) := by decide +kernel
theorem dX11_keep_19 : decode cX11_keep 19 = .ok (.getfield 115, 3) := by decide +kernel
theorem dX11_keep_22 : decode cX11_keep 22 = .ok (.ifCond .ne 6, 3) := by decide +kernel
theorem dX11_keep_25 : decode cX11_keep 25 = .ok (.bipush (-4), 2) := by decide +kernel
theorem dX11_keep_27 : decode cX11_keep 27 = .ok (.ireturn, 1) := by decide +kernel
theorem dX11_keep_28 : decode cX11_keep 28 = .ok (.aload_n 0, 1) := by decide +kernel
theorem dX11_keep_29 : decode cX11_keep 29 = .ok (.getfield 20, 3) := by decide +kernel
theorem dX11_keep_32 : decode cX11_keep 32 = .ok (.iload_n 1, 1) := by decide +kernel
theorem dX11_keep_33 : decode cX11_keep 33 = .ok (.aaload, 1) := by decide +kernel
theorem dX11_keep_34 : decode cX11_keep 34 = .ok (.aload_n 0, 1) := by decide +kernel
theorem dX11_keep_35 : decode cX11_keep 35 = .ok (.getfield 34, 3) := by decide +kernel
theorem dX11_keep_38 : decode cX11_keep 38 = .ok (.getfield 152, 3) := by decide +kernel
theorem dX11_keep_41 : decode cX11_keep 41 = .ok (.invokevirtual 191, 3) := by decide +kernel
theorem dX11_keep_44 : decode cX11_keep 44 = .ok (.aload_n 0, 1) := by decide +kernel
theorem dX11_keep_45 : decode cX11_keep 45 = .ok (.getfield 20, 3) := by decide +kernel
theorem dX11_keep_48 : decode cX11_keep 48 = .ok (.iload_n 1, 1) := by decide +kernel
theorem dX11_keep_49 : decode cX11_keep 49 = .ok (.aaload, 1) := by decide +kernel
theorem dX11_keep_50 : decode cX11_keep 50 = .ok (.getfield 114, 3) := by decide +kernel
theorem dX11_keep_53 : decode cX11_keep 53 = .ok (.ireturn, 1) := by decide +kernel
theorem dX11_on_0 : decode cX11_on 0 = .ok (.iload_n 1, 1) := by decide +kernel
theorem dX11_on_1 : decode cX11_on 1 = .ok (.ifCond .lt 12, 3) := by decide +kernel
theorem dX11_on_4 : decode cX11_on 4 = .ok (.iload_n 1, 1) := by decide +kernel
theorem dX11_on_5 : decode cX11_on 5 = .ok (.aload_n 0, 1) := by decide +kernel
theorem dX11_on_6 : decode cX11_on 6 = .ok (.getfield 20, 3) := by decide +kernel
theorem dX11_on_9 : decode cX11_on 9 = .ok (.arraylength, 1) := by decide +kernel
theorem dX11_on_10 : decode cX11_on 10 = .ok (.if_icmp .lt 5, 3) := by decide +kernel
theorem dX11_on_13 : decode cX11_on 13 = .ok (.iconst (-1), 1) := by decide +kernel
theorem dX11_on_14 : decode cX11_on 14 = .ok (.ireturn, 1) := by decide +kernel
theorem dX11_on_15 : decode cX11_on 15 = .ok (.aload_n 0, 1) := by decide +kernel
theorem dX11_on_16 : decode cX11_on 16 = .ok (.getfield 20, 3) := by decide +kernel
theorem dX11_on_19 : decode cX11_on 19 = .ok (.iload_n 1, 1) := by decide +kernel
theorem dX11_on_20 : decode cX11_on 20 = .ok (.aaload, 1) := by decide +kernel
theorem dX11_on_21 : decode cX11_on 21 = .ok (.getfield 114, 3) := by decide +kernel
theorem dX11_on_24 : decode cX11_on 24 = .ok (.ifCond .ge 9, 3) := by decide +kernel
theorem dX11_on_27 : decode cX11_on 27 = .ok (.aload_n 0, 1) := by decide +kernel
theorem dX11_on_28 : decode cX11_on 28 = .ok (.iconst 1, 1) := by decide +kernel
theorem dX11_on_29 : decode cX11_on 29 = .ok (.invokevirtual 85, 3) := by decide +kernel
theorem dX11_on_32 : decode cX11_on 32 = .ok (.ireturn, 1) := by decide +kernel
theorem dX11_on_33 : decode cX11_on 33 = .ok (.aload_n 0, 1) := by decide +kernel
theorem dX11_on_34 : decode cX11_on 34 = .ok (.getfield 34, 3) := by decide +kernel
theorem dX11_on_37 : decode cX11_on 37 = .ok (.aload_n 0, 1) := by decide +kernel
theorem dX11_on_38 : decode cX11_on 38 = .ok (.getfield 20, 3) := by decide +kernel
theorem dX11_on_41 : decode cX11_on 41 = .ok (.iload_n 1, 1) := by decide +kernel
theorem dX11_on_42 : decode cX11_on 42 = .ok (.aaload, 1) := by decide +kernel
theorem dX11_on_43 : decode cX11_on 43 = .ok (.invokevirtual 195, 3) := by decide +kernel
theorem dX11_on_46 : decode cX11_on 46 = .ok (.aload_n 0, 1) := by decide +kernel
theorem dX11_on_47 : decode cX11_on 47 = .ok (.getfield 20, 3) := by decide +kernel
theorem dX11_on_50 : decode cX11_on 50 = .ok (.iload_n 1, 1) := by decide +kernel
theorem dX11_on_51 : decode cX11_on 51 = .ok (.aaload, 1) := by decide +kernel
theorem dX11_on_52 : decode cX11_on 52 = .ok (.getfield 114, 3) := by decide +kernel
theorem dX11_on_55 : decode cX11_on 55 = .ok (.ireturn, 1) := by decide +kernel
theorem dX11_likely_0 : decode cX11_likely 0 = .ok (.aload_n 0, 1) := by decide +kernel
theorem dX11_likely_1 : decode cX11_likely 1 = .ok (.getfield 34, 3) := by decide +kernel
theorem dX11_likely_4 : decode cX11_likely 4 = .ok (.getfield 165, 3) := by decide +kernel
theorem dX11_likely_7 : decode cX11_likely 7 = .ok (.iload_n 1, 1) := by decide +kernel
theorem dX11_likely_8 : decode cX11_likely 8 = .ok (.invokevirtual 169, 3) := by decide +kernel
theorem dX11_likely_11 : decode cX11_likely 11 = .ok (.ifCond .ne 5, 3) := by decide +kernel
theorem dX11_likely_14 : decode cX11_likely 14 = .ok (.iconst (-1), 1) := by decide +kernel
theorem dX11_likely_15 : decode cX11_likely 15 = .ok (.ireturn, 1) := by decide +kernel
theorem dX11_likely_16 : decode cX11_likely 16 = .ok (.aload_n 0, 1) := by decide +kernel
theorem dX11_likely_17 : decode cX11_likely 17 = .ok (.aload_n 0, 1) := by decide +kernel
theorem dX11_likely_18 : decode cX11_likely 18 = .ok (.getfield 34, 3) := by decide +kernel
theorem dX11_likely_21 : decode cX11_likely 21 = .ok (.getfield 198, 3) := by decide +kernel
theorem dX11_likely_24 : decode cX11_likely 24 = .ok (.iload_n 1, 1) := by decide +kernel
theorem dX11_likely_25 : decode cX11_likely 25 = .ok (.laload, 1) := by decide +kernel
theorem dX11_likely_26 : decode cX11_likely 26 = .ok (.aload_n 0, 1) := by decide +kernel
theorem dX11_likely_27 : decode cX11_likely 27 = .ok (.getfield 34, 3) := by decide +kernel
theorem dX11_likely_30 : decode cX11_likely 30 = .ok (.aload_n 0, 1) := by decide +kernel
theorem dX11_likely_31 : decode cX11_likely 31 = .ok (.getfield 34, 3) := by decide +kernel
theorem dX11_likely_34 : decode cX11_likely 34 = .ok (.getfield 198, 3) := by decide +kernel
theorem dX11_likely_37 : decode cX11_likely 37 = .ok (.invokevirtual 202, 3) := by decide +kernel
theorem dX11_likely_40 : decode cX11_likely 40 = .ok (.invokevirtual 206, 3) := by decide +kernel
theorem dX11_likely_43 : decode cX11_likely 43 = .ok (.ireturn, 1) := by decide +kernel
theorem dX11_best_0 : decode cX11_best 0 = .ok (.aload_n 0, 1) := by decide +kernel
theorem dX11_best_1 : decode cX11_best 1 = .ok (.getfield 34, 3) := by decide +kernel
theorem dX11_best_4 : decode cX11_best 4 = .ok (.getfield 115, 3) := by decide +kernel
theorem dX11_best_7 : decode cX11_best 7 = .ok (.ifCond .ne 6, 3) := by decide +kernel
theorem dX11_best_10 : decode cX11_best 10 = .ok (.bipush (-4), 2) := by decide +kernel
theorem dX11_best_12 : decode cX11_best 12 = .ok (.ireturn, 1) := by decide +kernel
theorem dX11_best_13 : decode cX11_best 13 = .ok (.aload_n 0, 1) := by decide +kernel
theorem dX11_best_14 : decode cX11_best 14 = .ok (.getfield 34, 3) := by decide +kernel
theorem dX11_best_17 : decode cX11_best 17 = .ok (.aload_n 0, 1) := by decide +kernel
theorem dX11_best_18 : decode cX11_best 18 = .ok (.getfield 34, 3) := by decide +kernel
theorem dX11_best_21 : decode cX11_best 21 = .ok (.getfield 198, 3) := by decide +kernel
theorem dX11_best_24 : decode cX11_best 24 = .ok (.invokevirtual 210, 3) := by decide +kernel
theorem dX11_best_27 : decode cX11_best 27 = .ok (.istore_n 1, 1) := by decide +kernel
theorem dX11_best_28 : decode cX11_best 28 = .ok (.aload_n 0, 1) := by decide +kernel
theorem dX11_best_29 : decode cX11_best 29 = .ok (.aload_n 0, 1) := by decide +kernel
theorem dX11_best_30 : decode cX11_best 30 = .ok (.getfield 34, 3) := by decide +kernel
theorem dX11_best_33 : decode cX11_best 33 = .ok (.aload_n 0, 1) := by decide +kernel
theorem dX11_best_34 : decode cX11_best 34 = .ok (.getfield 34, 3) := by decide +kernel
theorem dX11_best_37 : decode cX11_best 37 = .ok (.getfield 198, 3) := by decide +kernel
theorem dX11_best_40 : decode cX11_best 40 = .ok (.aload_n 0, 1) := by decide +kernel
theorem dX11_best_41 : decode cX11_best 41 = .ok (.getfield 34, 3) := by decide +kernel
theorem dX11_best_44 : decode cX11_best 44 = .ok (.getfield 198, 3) := by decide +kernel
theorem dX11_best_47 : decode cX11_best 47 = .ok (.iload_n 1, 1) := by decide +kernel
theorem dX11_best_48 : decode cX11_best 48 = .ok (.laload, 1) := by decide +kernel
theorem dX11_best_49 : decode cX11_best 49 = .ok (.invokevirtual 214, 3) := by decide +kernel
theorem dX11_best_52 : decode cX11_best 52 = .ok (.invokevirtual 75, 3) := by decide +kernel
theorem dX11_best_55 : decode cX11_best 55 = .ok (.iload_n 1, 1) := by decide +kernel
theorem dX11_best_56 : decode cX11_best 56 = .ok (.ireturn, 1) := by decide +kernel
theorem dX11_wheel_0 : decode cX11_wheel 0 = .ok (.aload_n 0, 1) := by decide +kernel
theorem dX11_wheel_1 : decode cX11_wheel 1 = .ok (.getfield 34, 3) := by decide +kernel
theorem dX11_wheel_4 : decode cX11_wheel 4 = .ok (.getfield 165, 3) := by decide +kernel
theorem dX11_wheel_7 : decode cX11_wheel 7 = .ok (.iload_n 1, 1) := by decide +kernel
theorem dX11_wheel_8 : decode cX11_wheel 8 = .ok (.invokevirtual 218, 3) := by decide +kernel
theorem dX11_wheel_11 : decode cX11_wheel 11 = .ok (.ifCond .eq 21, 3) := by decide +kernel
theorem dX11_wheel_14 : decode cX11_wheel 14 = .ok (.iload_n 2, 1) := by decide +kernel
theorem dX11_wheel_15 : decode cX11_wheel 15 = .ok (.ifCond .lt 17, 3) := by decide +kernel
theorem dX11_wheel_18 : decode cX11_wheel 18 = .ok (.iload_n 2, 1) := by decide +kernel
theorem dX11_wheel_19 : decode cX11_wheel 19 = .ok (.aload_n 0, 1) := by decide +kernel
theorem dX11_wheel_20 : decode cX11_wheel 20 = .ok (.getfield 34, 3) := by decide +kernel
theorem dX11_wheel_23 : decode cX11_wheel 23 = .ok (.getfield 165, 3) := by decide +kernel
theorem dX11_wheel_26 : decode cX11_wheel 26 = .ok (.getfield 221, 3) := by decide +kernel
theorem dX11_wheel_29 : decode cX11_wheel 29 = .ok (.if_icmp .lt 5, 3) := by decide +kernel
theorem dX11_wheel_32 : decode cX11_wheel 32 = .ok (.iconst (-1), 1) := by decide +kernel
theorem dX11_wheel_33 : decode cX11_wheel 33 = .ok (.ireturn, 1) := by decide +kernel
theorem dX11_wheel_34 : decode cX11_wheel 34 = .ok (.aload_n 0, 1) := by decide +kernel
theorem dX11_wheel_35 : decode cX11_wheel 35 = .ok (.aload_n 0, 1) := by decide +kernel
theorem dX11_wheel_36 : decode cX11_wheel 36 = .ok (.getfield 34, 3) := by decide +kernel
theorem dX11_wheel_39 : decode cX11_wheel 39 = .ok (.iload_n 1, 1) := by decide +kernel
theorem dX11_wheel_40 : decode cX11_wheel 40 = .ok (.iload_n 2, 1) := by decide +kernel
theorem dX11_wheel_41 : decode cX11_wheel 41 = .ok (.invokevirtual 224, 3) := by decide +kernel
theorem dX11_wheel_44 : decode cX11_wheel 44 = .ok (.aload_n 0, 1) := by decide +kernel
theorem dX11_wheel_45 : decode cX11_wheel 45 = .ok (.getfield 34, 3) := by decide +kernel
theorem dX11_wheel_48 : decode cX11_wheel 48 = .ok (.aload_n 0, 1) := by decide +kernel
theorem dX11_wheel_49 : decode cX11_wheel 49 = .ok (.getfield 34, 3) := by decide +kernel
theorem dX11_wheel_52 : decode cX11_wheel 52 = .ok (.getfield 198, 3) := by decide +kernel
theorem dX11_wheel_55 : decode cX11_wheel 55 = .ok (.invokevirtual 202, 3) := by decide +kernel
theorem dX11_wheel_58 : decode cX11_wheel 58 = .ok (.invokevirtual 206, 3) := by decide +kernel
theorem dX11_wheel_61 : decode cX11_wheel 61 = .ok (.ireturn, 1) := by decide +kernel
theorem dX11_certain_0 : decode cX11_certain 0 = .ok (.aload_n 0, 1) := by decide +kernel
theorem dX11_certain_1 : decode cX11_certain 1 = .ok (.getfield 34, 3) := by decide +kernel
theorem dX11_certain_4 : decode cX11_certain 4 = .ok (.getfield 115, 3) := by decide +kernel
theorem dX11_certain_7 : decode cX11_certain 7 = .ok (.ifCond .ne 6, 3) := by decide +kernel
theorem dX11_certain_10 : decode cX11_certain 10 = .ok (.bipush (-4), 2) := by decide +kernel
theorem dX11_certain_12 : decode cX11_certain 12 = .ok (.ireturn, 1) := by decide +kernel
theorem dX11_certain_13 : decode cX11_certain 13 = .ok (.iconst 0, 1) := by decide +kernel
theorem dX11_certain_14 : decode cX11_certain 14 = .ok (.istore_n 1, 1) := by decide +kernel
theorem dX11_certain_15 : decode cX11_certain 15 = .ok (.iconst 0, 1) := by decide +kernel
theorem dX11_certain_16 : decode cX11_certain 16 = .ok (.istore_n 2, 1) := by decide +kernel
theorem dX11_certain_17 : decode cX11_certain 17 = .ok (.iconst 0, 1) := by decide +kernel
theorem dX11_certain_18 : decode cX11_certain 18 = .ok (.istore_n 3, 1) := by decide +kernel
theorem dX11_certain_19 : decode cX11_certain 19 = .ok (.iload_n 3, 1) := by decide +kernel
theorem dX11_certain_20 : decode cX11_certain 20 = .ok (.aload_n 0, 1) := by decide +kernel
theorem dX11_certain_21 : decode cX11_certain 21 = .ok (.getfield 34, 3) := by decide +kernel
theorem dX11_certain_24 : decode cX11_certain 24 = .ok (.getfield 165, 3) := by decide +kernel
theorem dX11_certain_27 : decode cX11_certain 27 = .ok (.getfield 228, 3) := by decide +kernel
theorem dX11_certain_30 : decode cX11_certain 30 = .ok (.if_icmp .ge 52, 3) := by decide +kernel
theorem dX11_certain_33 : decode cX11_certain 33 = .ok (.aload_n 0, 1) := by decide +kernel
theorem dX11_certain_34 : decode cX11_certain 34 = .ok (.getfield 34, 3) := by decide +kernel
theorem dX11_certain_37 : decode cX11_certain 37 = .ok (.iload_n 3, 1) := by decide +kernel
theorem dX11_certain_38 : decode cX11_certain 38 = .ok (.invokevirtual 229, 3) := by decide +kernel
theorem dX11_certain_41 : decode cX11_certain 41 = .ok (.istore 4, 2) := by decide +kernel
theorem dX11_certain_43 : decode cX11_certain 43 = .ok (.iload_n 1, 1) := by decide +kernel
theorem dX11_certain_44 : decode cX11_certain 44 = .ok (.iload 4, 2) := by decide +kernel
theorem dX11_certain_46 : decode cX11_certain 46 = .ok (.ifCond .lt 9, 3) := by decide +kernel
theorem dX11_certain_49 : decode cX11_certain 49 = .ok (.iconst 1, 1) := by decide +kernel
theorem dX11_certain_50 : decode cX11_certain 50 = .ok (.iload_n 3, 1) := by decide +kernel
theorem dX11_certain_51 : decode cX11_certain 51 = .ok (.ishl, 1) := by decide +kernel
theorem dX11_certain_52 : decode cX11_certain 52 = .ok (.goto 4, 3) := by decide +kernel
theorem dX11_certain_55 : decode cX11_certain 55 = .ok (.iconst 0, 1) := by decide +kernel
theorem dX11_certain_56 : decode cX11_certain 56 = .ok (.ior, 1) := by decide +kernel
theorem dX11_certain_57 : decode cX11_certain 57 = .ok (.istore_n 1, 1) := by decide +kernel
theorem dX11_certain_58 : decode cX11_certain 58 = .ok (.bipush 10, 2) := by decide +kernel
theorem dX11_certain_60 : decode cX11_certain 60 = .ok (.iload_n 2, 1) := by decide +kernel
theorem dX11_certain_61 : decode cX11_certain 61 = .ok (.imul, 1) := by decide +kernel
theorem dX11_certain_62 : decode cX11_certain 62 = .ok (.iload 4, 2) := by decide +kernel
theorem dX11_certain_64 : decode cX11_certain 64 = .ok (.ifCond .lt 8, 3) := by decide +kernel
theorem dX11_certain_67 : decode cX11_certain 67 = .ok (.iload 4, 2) := by decide +kernel
theorem dX11_certain_69 : decode cX11_certain 69 = .ok (.goto 5, 3) := by decide +kernel
theorem dX11_certain_72 : decode cX11_certain 72 = .ok (.bipush 9, 2) := by decide +kernel
theorem dX11_certain_74 : decode cX11_certain 74 = .ok (.iadd, 1) := by decide +kernel
theorem dX11_certain_75 : decode cX11_certain 75 = .ok (.istore_n 2, 1) := by decide +kernel
theorem dX11_certain_76 : decode cX11_certain 76 = .ok (.iinc 3 1, 3) := by decide +kernel
theorem dX11_certain_79 : decode cX11_certain 79 = .ok (.goto (-60), 3) := by decide +kernel
theorem dX11_certain_82 : decode cX11_certain 82 = .ok (.aload_n 0, 1) := by decide +kernel
theorem dX11_certain_83 : decode cX11_certain 83 = .ok (.iload_n 2, 1) := by decide +kernel
theorem dX11_certain_84 : decode cX11_certain 84 = .ok (.invokevirtual 75, 3) := by decide +kernel
theorem dX11_certain_87 : decode cX11_certain 87 = .ok (.iload_n 1, 1) := by decide +kernel
theorem dX11_certain_88 : decode cX11_certain 88 = .ok (.ireturn, 1) := by decide +kernel
theorem dX11_order_0 : decode cX11_order 0 = .ok (.aload_n 0, 1) := by decide +kernel
theorem dX11_order_1 : decode cX11_order 1 = .ok (.getfield 11, 3) := by decide +kernel
theorem dX11_order_4 : decode cX11_order 4 = .ok (.iload_n 2, 1) := by decide +kernel
theorem dX11_order_5 : decode cX11_order 5 = .ok (.invokestatic 60, 3) := by decide +kernel
theorem dX11_order_8 : decode cX11_order 8 = .ok (.astore_n 3, 1) := by decide +kernel
theorem dX11_order_9 : decode cX11_order 9 = .ok (.aload_n 3, 1) := by decide +kernel
theorem dX11_order_10 : decode cX11_order 10 = .ok (.ifnull 14, 3) := by decide +kernel
theorem dX11_order_13 : decode cX11_order 13 = .ok (.iload_n 1, 1) := by decide +kernel
theorem dX11_order_14 : decode cX11_order 14 = .ok (.iconst 1, 1) := by decide +kernel
theorem dX11_order_15 : decode cX11_order 15 = .ok (.if_icmp .lt 9, 3) := by decide +kernel
theorem dX11_order_18 : decode cX11_order 18 = .ok (.iload_n 1, 1) := by decide +kernel
theorem dX11_order_19 : decode cX11_order 19 = .ok (.bipush 40, 2) := by decide +kernel
theorem dX11_order_21 : decode cX11_order 21 = .ok (.if_icmp .le 5, 3) := by decide +kernel
theorem dX11_order_24 : decode cX11_order 24 = .ok (.iconst (-1), 1) := by decide +kernel
theorem dX11_order_25 : decode cX11_order 25 = .ok (.ireturn, 1) := by decide +kernel
theorem dX11_order_26 : decode cX11_order 26 = .ok (.aload_n 0, 1) := by decide +kernel
theorem dX11_order_27 : decode cX11_order 27 = .ok (.getfield 34, 3) := by decide +kernel
theorem dX11_order_30 : decode cX11_order 30 = .ok (.getfield 115, 3) := by decide +kernel
theorem dX11_order_33 : decode cX11_order 33 = .ok (.ifCond .ne 6, 3) := by decide +kernel
theorem dX11_order_36 : decode cX11_order 36 = .ok (.bipush (-4), 2) := by decide +kernel
theorem dX11_order_38 : decode cX11_order 38 = .ok (.ireturn, 1) := by decide +kernel
theorem dX11_order_39 : decode cX11_order 39 = .ok (.iload_n 1, 1) := by decide +kernel
theorem dX11_order_40 : decode cX11_order 40 = .ok (.aload_n 0, 1) := by decide +kernel
theorem dX11_order_41 : decode cX11_order 41 = .ok (.getfield 34, 3) := by decide +kernel
theorem dX11_order_44 : decode cX11_order 44 = .ok (.invokevirtual 232, 3) := by decide +kernel
theorem dX11_order_47 : decode cX11_order 47 = .ok (.invokestatic 235, 3) := by decide +kernel
theorem dX11_order_50 : decode cX11_order 50 = .ok (.istore 4, 2) := by decide +kernel
theorem dX11_order_52 : decode cX11_order 52 = .ok (.aload_n 3, 1) := by decide +kernel
theorem dX11_order_53 : decode cX11_order 53 = .ok (.iload 4, 2) := by decide +kernel
theorem dX11_order_55 : decode cX11_order 55 = .ok (.iconst 0, 1) := by decide +kernel
theorem dX11_order_56 : decode cX11_order 56 = .ok (.invokevirtual 240, 3) := by decide +kernel
theorem dX11_order_59 : decode cX11_order 59 = .ok (.aload_n 0, 1) := by decide +kernel
theorem dX11_order_60 : decode cX11_order 60 = .ok (.getfield 34, 3) := by decide +kernel
theorem dX11_order_63 : decode cX11_order 63 = .ok (.getfield 243, 3) := by decide +kernel
theorem dX11_order_66 : decode cX11_order 66 = .ok (.iconst 0, 1) := by decide +kernel
theorem dX11_order_67 : decode cX11_order 67 = .ok (.aload_n 3, 1) := by decide +kernel
theorem dX11_order_68 : decode cX11_order 68 = .ok (.getfield 72, 3) := by decide +kernel
theorem dX11_order_71 : decode cX11_order 71 = .ok (.iconst 0, 1) := by decide +kernel
theorem dX11_order_72 : decode cX11_order 72 = .ok (.iload 4, 2) := by decide +kernel
theorem dX11_order_74 : decode cX11_order 74 = .ok (.invokestatic 97, 3) := by decide +kernel
theorem dX11_order_77 : decode cX11_order 77 = .ok (.iload 4, 2) := by decide +kernel
theorem dX11_order_79 : decode cX11_order 79 = .ok (.ireturn, 1) := by decide +kernel
theorem dX11_tries_0 : decode cX11_tries 0 = .ok (.aload_n 0, 1) := by decide +kernel
theorem dX11_tries_1 : decode cX11_tries 1 = .ok (.getfield 34, 3) := by decide +kernel
theorem dX11_tries_4 : decode cX11_tries 4 = .ok (.getfield 115, 3) := by decide +kernel
theorem dX11_tries_7 : decode cX11_tries 7 = .ok (.ifCond .ne 6, 3) := by decide +kernel
theorem dX11_tries_10 : decode cX11_tries 10 = .ok (.bipush (-4), 2) := by decide +kernel
theorem dX11_tries_12 : decode cX11_tries 12 = .ok (.ireturn, 1) := by decide +kernel
theorem dX11_tries_13 : decode cX11_tries 13 = .ok (.aload_n 0, 1) := by decide +kernel
theorem dX11_tries_14 : decode cX11_tries 14 = .ok (.aload_n 0, 1) := by decide +kernel
theorem dX11_tries_15 : decode cX11_tries 15 = .ok (.getfield 34, 3) := by decide +kernel
theorem dX11_tries_18 : decode cX11_tries 18 = .ok (.invokevirtual 246, 3) := by decide +kernel
theorem dX11_tries_21 : decode cX11_tries 21 = .ok (.aload_n 0, 1) := by decide +kernel
theorem dX11_tries_22 : decode cX11_tries 22 = .ok (.getfield 34, 3) := by decide +kernel
theorem dX11_tries_25 : decode cX11_tries 25 = .ok (.aload_n 0, 1) := by decide +kernel
theorem dX11_tries_26 : decode cX11_tries 26 = .ok (.getfield 34, 3) := by decide +kernel
theorem dX11_tries_29 : decode cX11_tries 29 = .ok (.getfield 198, 3) := by decide +kernel
theorem dX11_tries_32 : decode cX11_tries 32 = .ok (.invokevirtual 202, 3) := by decide +kernel
theorem dX11_tries_35 : decode cX11_tries 35 = .ok (.invokevirtual 206, 3) := by decide +kernel
theorem dX11_tries_38 : decode cX11_tries 38 = .ok (.ireturn, 1) := by decide +kernel
theorem dX11_within_0 : decode cX11_within 0 = .ok (.iload_n 1, 1) := by decide +kernel
theorem dX11_within_1 : decode cX11_within 1 = .ok (.ifCond .lt 10, 3) := by decide +kernel
theorem dX11_within_4 : decode cX11_within 4 = .ok (.iload_n 1, 1) := by decide +kernel
theorem dX11_within_5 : decode cX11_within 5 = .ok (.sipush 216, 3) := by decide +kernel
theorem dX11_within_8 : decode cX11_within 8 = .ok (.if_icmp .le 5, 3) := by decide +kernel
theorem dX11_within_11 : decode cX11_within 11 = .ok (.iconst (-1), 1) := by decide +kernel
theorem dX11_within_12 : decode cX11_within 12 = .ok (.ireturn, 1) := by decide +kernel
theorem dX11_within_13 : decode cX11_within 13 = .ok (.aload_n 0, 1) := by decide +kernel
theorem dX11_within_14 : decode cX11_within 14 = .ok (.getfield 34, 3) := by decide +kernel
theorem dX11_within_17 : decode cX11_within 17 = .ok (.getfield 115, 3) := by decide +kernel
theorem dX11_within_20 : decode cX11_within 20 = .ok (.ifCond .ne 6, 3) := by decide +kernel
theorem dX11_within_23 : decode cX11_within 23 = .ok (.bipush (-4), 2) := by decide +kernel
theorem dX11_within_25 : decode cX11_within 25 = .ok (.ireturn, 1) := by decide +kernel
theorem dX11_within_26 : decode cX11_within 26 = .ok (.aload_n 0, 1) := by decide +kernel
theorem dX11_within_27 : decode cX11_within 27 = .ok (.aload_n 0, 1) := by decide +kernel
theorem dX11_within_28 : decode cX11_within 28 = .ok (.getfield 34, 3) := by decide +kernel
theorem dX11_within_31 : decode cX11_within 31 = .ok (.iload_n 1, 1) := by decide +kernel
theorem dX11_within_32 : decode cX11_within 32 = .ok (.invokevirtual 249, 3) := by decide +kernel
theorem dX11_within_35 : decode cX11_within 35 = .ok (.aload_n 0, 1) := by decide +kernel
theorem dX11_within_36 : decode cX11_within 36 = .ok (.getfield 34, 3) := by decide +kernel
theorem dX11_within_39 : decode cX11_within 39 = .ok (.aload_n 0, 1) := by decide +kernel
theorem dX11_within_40 : decode cX11_within 40 = .ok (.getfield 34, 3) := by decide +kernel
theorem dX11_within_43 : decode cX11_within 43 = .ok (.getfield 198, 3) := by decide +kernel
theorem dX11_within_46 : decode cX11_within 46 = .ok (.invokevirtual 202, 3) := by decide +kernel
theorem dX11_within_49 : decode cX11_within 49 = .ok (.invokevirtual 206, 3) := by decide +kernel
theorem dX11_within_52 : decode cX11_within 52 = .ok (.ireturn, 1) := by decide +kernel
theorem dX11_worth_0 : decode cX11_worth 0 = .ok (.aload_n 0, 1) := by decide +kernel
theorem dX11_worth_1 : decode cX11_worth 1 = .ok (.getfield 34, 3) := by decide +kernel
theorem dX11_worth_4 : decode cX11_worth 4 = .ok (.iload_n 1, 1) := by decide +kernel
theorem dX11_worth_5 : decode cX11_worth 5 = .ok (.invokevirtual 118, 3) := by decide +kernel
theorem dX11_worth_8 : decode cX11_worth 8 = .ok (.astore_n 2, 1) := by decide +kernel
theorem dX11_worth_9 : decode cX11_worth 9 = .ok (.aload_n 2, 1) := by decide +kernel
theorem dX11_worth_10 : decode cX11_worth 10 = .ok (.ifnonnull 5, 3) := by decide +kernel
theorem dX11_worth_13 : decode cX11_worth 13 = .ok (.iconst (-1), 1) := by decide +kernel
theorem dX11_worth_14 : decode cX11_worth 14 = .ok (.ireturn, 1) := by decide +kernel
theorem dX11_worth_15 : decode cX11_worth 15 = .ok (.aload_n 0, 1) := by decide +kernel
theorem dX11_worth_16 : decode cX11_worth 16 = .ok (.aload_n 0, 1) := by decide +kernel
theorem dX11_worth_17 : decode cX11_worth 17 = .ok (.getfield 34, 3) := by decide +kernel
theorem dX11_worth_20 : decode cX11_worth 20 = .ok (.aload_n 2, 1) := by decide +kernel
theorem dX11_worth_21 : decode cX11_worth 21 = .ok (.invokevirtual 253, 3) := by decide +kernel
theorem dX11_worth_24 : decode cX11_worth 24 = .ok (.aload_n 0, 1) := by decide +kernel
theorem dX11_worth_25 : decode cX11_worth 25 = .ok (.getfield 34, 3) := by decide +kernel
theorem dX11_worth_28 : decode cX11_worth 28 = .ok (.aload_n 0, 1) := by decide +kernel
theorem dX11_worth_29 : decode cX11_worth 29 = .ok (.getfield 34, 3) := by decide +kernel
theorem dX11_worth_32 : decode cX11_worth 32 = .ok (.getfield 198, 3) := by decide +kernel
theorem dX11_worth_35 : decode cX11_worth 35 = .ok (.invokevirtual 202, 3) := by decide +kernel
theorem dX11_worth_38 : decode cX11_worth 38 = .ok (.aload_n 2, 1) := by decide +kernel
theorem dX11_worth_39 : decode cX11_worth 39 = .ok (.getfield 257, 3) := by decide +kernel
theorem dX11_worth_42 : decode cX11_worth 42 = .ok (.i2l, 1) := by decide +kernel
theorem dX11_worth_43 : decode cX11_worth 43 = .ok (.lmul, 1) := by decide +kernel
theorem dX11_worth_44 : decode cX11_worth 44 = .ok (.invokevirtual 206, 3) := by decide +kernel
theorem dX11_worth_47 : decode cX11_worth 47 = .ok (.ireturn, 1) := by decide +kernel
theorem dX11_whose_0 : decode cX11_whose 0 = .ok (.aload_n 0, 1) := by decide +kernel
theorem dX11_whose_1 : decode cX11_whose 1 = .ok (.getfield 34, 3) := by decide +kernel
theorem dX11_whose_4 : decode cX11_whose 4 = .ok (.getfield 115, 3) := by decide +kernel
theorem dX11_whose_7 : decode cX11_whose 7 = .ok (.ifCond .ne 6, 3) := by decide +kernel
theorem dX11_whose_10 : decode cX11_whose 10 = .ok (.bipush (-4), 2) := by decide +kernel
theorem dX11_whose_12 : decode cX11_whose 12 = .ok (.ireturn, 1) := by decide +kernel
theorem dX11_whose_13 : decode cX11_whose 13 = .ok (.aload_n 0, 1) := by decide +kernel
theorem dX11_whose_14 : decode cX11_whose 14 = .ok (.getfield 34, 3) := by decide +kernel
theorem dX11_whose_17 : decode cX11_whose 17 = .ok (.invokevirtual 260, 3) := by decide +kernel
theorem dX11_whose_20 : decode cX11_whose 20 = .ok (.aload_n 0, 1) := by decide +kernel
theorem dX11_whose_21 : decode cX11_whose 21 = .ok (.aload_n 0, 1) := by decide +kernel
theorem dX11_whose_22 : decode cX11_whose 22 = .ok (.getfield 34, 3) := by decide +kernel
theorem dX11_whose_25 : decode cX11_whose 25 = .ok (.iconst 0, 1) := by decide +kernel
theorem dX11_whose_26 : decode cX11_whose 26 = .ok (.invokevirtual 263, 3) := by decide +kernel
theorem dX11_whose_29 : decode cX11_whose 29 = .ok (.invokevirtual 75, 3) := by decide +kernel
theorem dX11_whose_32 : decode cX11_whose 32 = .ok (.aload_n 0, 1) := by decide +kernel
theorem dX11_whose_33 : decode cX11_whose 33 = .ok (.getfield 34, 3) := by decide +kernel
theorem dX11_whose_36 : decode cX11_whose 36 = .ok (.iconst 1, 1) := by decide +kernel
theorem dX11_whose_37 : decode cX11_whose 37 = .ok (.invokevirtual 263, 3) := by decide +kernel
theorem dX11_whose_40 : decode cX11_whose 40 = .ok (.ireturn, 1) := by decide +kernel
theorem dX11_seen_0 : decode cX11_seen 0 = .ok (.aload_n 0, 1) := by decide +kernel
theorem dX11_seen_1 : decode cX11_seen 1 = .ok (.getfield 34, 3) := by decide +kernel
theorem dX11_seen_4 : decode cX11_seen 4 = .ok (.iload_n 1, 1) := by decide +kernel
theorem dX11_seen_5 : decode cX11_seen 5 = .ok (.invokevirtual 118, 3) := by decide +kernel
theorem dX11_seen_8 : decode cX11_seen 8 = .ok (.astore_n 3, 1) := by decide +kernel
theorem dX11_seen_9 : decode cX11_seen 9 = .ok (.aload_n 3, 1) := by decide +kernel
theorem dX11_seen_10 : decode cX11_seen 10 = .ok (.ifnull 17, 3) := by decide +kernel
theorem dX11_seen_13 : decode cX11_seen 13 = .ok (.aload_n 0, 1) := by decide +kernel
theorem dX11_seen_14 : decode cX11_seen 14 = .ok (.getfield 34, 3) := by decide +kernel
theorem dX11_seen_17 : decode cX11_seen 17 = .ok (.getfield 165, 3) := by decide +kernel
theorem dX11_seen_20 : decode cX11_seen 20 = .ok (.iload_n 2, 1) := by decide +kernel
theorem dX11_seen_21 : decode cX11_seen 21 = .ok (.invokevirtual 169, 3) := by decide +kernel
theorem dX11_seen_24 : decode cX11_seen 24 = .ok (.ifCond .ne 5, 3) := by decide +kernel
theorem dX11_seen_27 : decode cX11_seen 27 = .ok (.iconst (-1), 1) := by decide +kernel
theorem dX11_seen_28 : decode cX11_seen 28 = .ok (.ireturn, 1) := by decide +kernel
theorem dX11_seen_29 : decode cX11_seen 29 = .ok (.aload_n 0, 1) := by decide +kernel
theorem dX11_seen_30 : decode cX11_seen 30 = .ok (.getfield 34, 3) := by decide +kernel
theorem dX11_seen_33 : decode cX11_seen 33 = .ok (.aload_n 3, 1) := by decide +kernel
theorem dX11_seen_34 : decode cX11_seen 34 = .ok (.iconst 1, 1) := by decide +kernel
theorem dX11_seen_35 : decode cX11_seen 35 = .ok (.invokevirtual 267, 3) := by decide +kernel
theorem dX11_seen_38 : decode cX11_seen 38 = .ok (.aload_n 0, 1) := by decide +kernel
theorem dX11_seen_39 : decode cX11_seen 39 = .ok (.aload_n 0, 1) := by decide +kernel
theorem dX11_seen_40 : decode cX11_seen 40 = .ok (.getfield 34, 3) := by decide +kernel
theorem dX11_seen_43 : decode cX11_seen 43 = .ok (.getfield 271, 3) := by decide +kernel
theorem dX11_seen_46 : decode cX11_seen 46 = .ok (.iload_n 2, 1) := by decide +kernel
theorem dX11_seen_47 : decode cX11_seen 47 = .ok (.laload, 1) := by decide +kernel
theorem dX11_seen_48 : decode cX11_seen 48 = .ok (.aload_n 0, 1) := by decide +kernel
theorem dX11_seen_49 : decode cX11_seen 49 = .ok (.getfield 34, 3) := by decide +kernel
theorem dX11_seen_52 : decode cX11_seen 52 = .ok (.aload_n 0, 1) := by decide +kernel
theorem dX11_seen_53 : decode cX11_seen 53 = .ok (.getfield 34, 3) := by decide +kernel
theorem dX11_seen_56 : decode cX11_seen 56 = .ok (.getfield 198, 3) := by decide +kernel
theorem dX11_seen_59 : decode cX11_seen 59 = .ok (.invokevirtual 202, 3) := by decide +kernel
theorem dX11_seen_62 : decode cX11_seen 62 = .ok (.aload_n 3, 1) := by decide +kernel
theorem dX11_seen_63 : decode cX11_seen 63 = .ok (.getfield 257, 3) := by decide +kernel
theorem dX11_seen_66 : decode cX11_seen 66 = .ok (.i2l, 1) := by decide +kernel
theorem dX11_seen_67 : decode cX11_seen 67 = .ok (.lmul, 1) := by decide +kernel
theorem dX11_seen_68 : decode cX11_seen 68 = .ok (.invokevirtual 206, 3) := by decide +kernel
theorem dX11_seen_71 : decode cX11_seen 71 = .ok (.ireturn, 1) := by decide +kernel
theorem dX11_sights_0 : decode cX11_sights 0 = .ok (.aload_n 0, 1) := by decide +kernel
theorem dX11_sights_1 : decode cX11_sights 1 = .ok (.getfield 34, 3) := by decide +kernel
theorem dX11_sights_4 : decode cX11_sights 4 = .ok (.iload_n 1, 1) := by decide +kernel
theorem dX11_sights_5 : decode cX11_sights 5 = .ok (.invokevirtual 118, 3) := by decide +kernel
theorem dX11_sights_8 : decode cX11_sights 8 = .ok (.astore_n 2, 1) := by decide +kernel
theorem dX11_sights_9 : decode cX11_sights 9 = .ok (.aload_n 2, 1) := by decide +kernel
theorem dX11_sights_10 : decode cX11_sights 10 = .ok (.ifnonnull 5, 3) := by decide +kernel
theorem dX11_sights_13 : decode cX11_sights 13 = .ok (.iconst (-1), 1) := by decide +kernel
theorem dX11_sights_14 : decode cX11_sights 14 = .ok (.ireturn, 1) := by decide +kernel
theorem dX11_sights_15 : decode cX11_sights 15 = .ok (.aload_n 0, 1) := by decide +kernel
theorem dX11_sights_16 : decode cX11_sights 16 = .ok (.getfield 34, 3) := by decide +kernel
theorem dX11_sights_19 : decode cX11_sights 19 = .ok (.aload_n 2, 1) := by decide +kernel
theorem dX11_sights_20 : decode cX11_sights 20 = .ok (.iconst 1, 1) := by decide +kernel
theorem dX11_sights_21 : decode cX11_sights 21 = .ok (.invokevirtual 267, 3) := by decide +kernel
theorem dX11_sights_24 : decode cX11_sights 24 = .ok (.aload_n 0, 1) := by decide +kernel
theorem dX11_sights_25 : decode cX11_sights 25 = .ok (.aload_n 0, 1) := by decide +kernel
theorem dX11_sights_26 : decode cX11_sights 26 = .ok (.getfield 34, 3) := by decide +kernel
theorem dX11_sights_29 : decode cX11_sights 29 = .ok (.aload_n 0, 1) := by decide +kernel
theorem dX11_sights_30 : decode cX11_sights 30 = .ok (.getfield 34, 3) := by decide +kernel
theorem dX11_sights_33 : decode cX11_sights 33 = .ok (.getfield 271, 3) := by decide +kernel
theorem dX11_sights_36 : decode cX11_sights 36 = .ok (.invokevirtual 210, 3) := by decide +kernel
theorem dX11_sights_39 : decode cX11_sights 39 = .ok (.invokevirtual 75, 3) := by decide +kernel
theorem dX11_sights_42 : decode cX11_sights 42 = .ok (.aload_n 0, 1) := by decide +kernel
theorem dX11_sights_43 : decode cX11_sights 43 = .ok (.getfield 34, 3) := by decide +kernel
theorem dX11_sights_46 : decode cX11_sights 46 = .ok (.aload_n 0, 1) := by decide +kernel
theorem dX11_sights_47 : decode cX11_sights 47 = .ok (.getfield 34, 3) := by decide +kernel
theorem dX11_sights_50 : decode cX11_sights 50 = .ok (.getfield 271, 3) := by decide +kernel
theorem dX11_sights_53 : decode cX11_sights 53 = .ok (.invokevirtual 274, 3) := by decide +kernel
theorem dX11_sights_56 : decode cX11_sights 56 = .ok (.ireturn, 1) := by decide +kernel
theorem dX11_fits_0 : decode cX11_fits 0 = .ok (.aload_n 0, 1) := by decide +kernel
theorem dX11_fits_1 : decode cX11_fits 1 = .ok (.iload_n 1, 1) := by decide +kernel
theorem dX11_fits_2 : decode cX11_fits 2 = .ok (.invokevirtual 277, 3) := by decide +kernel
theorem dX11_fits_5 : decode cX11_fits 5 = .ok (.istore_n 2, 1) := by decide +kernel
theorem dX11_fits_6 : decode cX11_fits 6 = .ok (.iload_n 2, 1) := by decide +kernel
theorem dX11_fits_7 : decode cX11_fits 7 = .ok (.ifCond .eq 5, 3) := by decide +kernel
theorem dX11_fits_10 : decode cX11_fits 10 = .ok (.iload_n 2, 1) := by decide +kernel
theorem dX11_fits_11 : decode cX11_fits 11 = .ok (.ireturn, 1) := by decide +kernel
theorem dX11_fits_12 : decode cX11_fits 12 = .ok (.aload_n 0, 1) := by decide +kernel
theorem dX11_fits_13 : decode cX11_fits 13 = .ok (.getfield 34, 3) := by decide +kernel
theorem dX11_fits_16 : decode cX11_fits 16 = .ok (.aload_n 0, 1) := by decide +kernel
theorem dX11_fits_17 : decode cX11_fits 17 = .ok (.getfield 11, 3) := by decide +kernel
theorem dX11_fits_20 : decode cX11_fits 20 = .ok (.iload_n 1, 1) := by decide +kernel
theorem dX11_fits_21 : decode cX11_fits 21 = .ok (.aaload, 1) := by decide +kernel
theorem dX11_fits_22 : decode cX11_fits 22 = .ok (.invokevirtual 280, 3) := by decide +kernel
theorem dX11_fits_25 : decode cX11_fits 25 = .ok (.aload_n 0, 1) := by decide +kernel
theorem dX11_fits_26 : decode cX11_fits 26 = .ok (.getfield 34, 3) := by decide +kernel
theorem dX11_fits_29 : decode cX11_fits 29 = .ok (.aload_n 0, 1) := by decide +kernel
theorem dX11_fits_30 : decode cX11_fits 30 = .ok (.getfield 34, 3) := by decide +kernel
theorem dX11_fits_33 : decode cX11_fits 33 = .ok (.getfield 271, 3) := by decide +kernel
theorem dX11_fits_36 : decode cX11_fits 36 = .ok (.invokevirtual 274, 3) := by decide +kernel
theorem dX11_fits_39 : decode cX11_fits 39 = .ok (.istore_n 3, 1) := by decide +kernel
theorem dX11_fits_40 : decode cX11_fits 40 = .ok (.aload_n 0, 1) := by decide +kernel
theorem dX11_fits_41 : decode cX11_fits 41 = .ok (.iload_n 3, 1) := by decide +kernel
theorem dX11_fits_42 : decode cX11_fits 42 = .ok (.ifCond .ne 8, 3) := by decide +kernel
theorem dX11_fits_45 : decode cX11_fits 45 = .ok (.bipush (-9), 2) := by decide +kernel
theorem dX11_fits_47 : decode cX11_fits 47 = .ok (.goto 17, 3) := by decide +kernel
theorem dX11_fits_50 : decode cX11_fits 50 = .ok (.aload_n 0, 1) := by decide +kernel
theorem dX11_fits_51 : decode cX11_fits 51 = .ok (.getfield 34, 3) := by decide +kernel
theorem dX11_fits_54 : decode cX11_fits 54 = .ok (.aload_n 0, 1) := by decide +kernel
theorem dX11_fits_55 : decode cX11_fits 55 = .ok (.getfield 34, 3) := by decide +kernel
theorem dX11_fits_58 : decode cX11_fits 58 = .ok (.getfield 271, 3) := by decide +kernel
theorem dX11_fits_61 : decode cX11_fits 61 = .ok (.invokevirtual 284, 3) := by decide +kernel
theorem dX11_fits_64 : decode cX11_fits 64 = .ok (.invokevirtual 75, 3) := by decide +kernel
theorem dX11_fits_67 : decode cX11_fits 67 = .ok (.iload_n 3, 1) := by decide +kernel
theorem dX11_fits_68 : decode cX11_fits 68 = .ok (.ireturn, 1) := by decide +kernel
theorem dX11_chance_0 : decode cX11_chance 0 = .ok (.aload_n 0, 1) := by decide +kernel
theorem dX11_chance_1 : decode cX11_chance 1 = .ok (.iload_n 1, 1) := by decide +kernel
theorem dX11_chance_2 : decode cX11_chance 2 = .ok (.invokevirtual 277, 3) := by decide +kernel
theorem dX11_chance_5 : decode cX11_chance 5 = .ok (.istore_n 2, 1) := by decide +kernel
theorem dX11_chance_6 : decode cX11_chance 6 = .ok (.iload_n 2, 1) := by decide +kernel
theorem dX11_chance_7 : decode cX11_chance 7 = .ok (.ifCond .eq 5, 3) := by decide +kernel
theorem dX11_chance_10 : decode cX11_chance 10 = .ok (.iload_n 2, 1) := by decide +kernel
theorem dX11_chance_11 : decode cX11_chance 11 = .ok (.ireturn, 1) := by decide +kernel
theorem dX11_chance_12 : decode cX11_chance 12 = .ok (.aload_n 0, 1) := by decide +kernel
theorem dX11_chance_13 : decode cX11_chance 13 = .ok (.getfield 34, 3) := by decide +kernel
theorem dX11_chance_16 : decode cX11_chance 16 = .ok (.aload_n 0, 1) := by decide +kernel
theorem dX11_chance_17 : decode cX11_chance 17 = .ok (.getfield 11, 3) := by decide +kernel
theorem dX11_chance_20 : decode cX11_chance 20 = .ok (.iload_n 1, 1) := by decide +kernel
theorem dX11_chance_21 : decode cX11_chance 21 = .ok (.aaload, 1) := by decide +kernel
theorem dX11_chance_22 : decode cX11_chance 22 = .ok (.invokevirtual 280, 3) := by decide +kernel
theorem dX11_chance_25 : decode cX11_chance 25 = .ok (.aload_n 0, 1) := by decide +kernel
theorem dX11_chance_26 : decode cX11_chance 26 = .ok (.aload_n 0, 1) := by decide +kernel
theorem dX11_chance_27 : decode cX11_chance 27 = .ok (.getfield 34, 3) := by decide +kernel
theorem dX11_chance_30 : decode cX11_chance 30 = .ok (.aload_n 0, 1) := by decide +kernel
theorem dX11_chance_31 : decode cX11_chance 31 = .ok (.getfield 34, 3) := by decide +kernel
theorem dX11_chance_34 : decode cX11_chance 34 = .ok (.getfield 271, 3) := by decide +kernel
theorem dX11_chance_37 : decode cX11_chance 37 = .ok (.invokevirtual 202, 3) := by decide +kernel
theorem dX11_chance_40 : decode cX11_chance 40 = .ok (.aload_n 0, 1) := by decide +kernel
theorem dX11_chance_41 : decode cX11_chance 41 = .ok (.getfield 34, 3) := by decide +kernel
theorem dX11_chance_44 : decode cX11_chance 44 = .ok (.aload_n 0, 1) := by decide +kernel
theorem dX11_chance_45 : decode cX11_chance 45 = .ok (.getfield 11, 3) := by decide +kernel
theorem dX11_chance_48 : decode cX11_chance 48 = .ok (.iload_n 1, 1) := by decide +kernel
theorem dX11_chance_49 : decode cX11_chance 49 = .ok (.aaload, 1) := by decide +kernel
theorem dX11_chance_50 : decode cX11_chance 50 = .ok (.invokevirtual 287, 3) := by decide +kernel
theorem dX11_chance_53 : decode cX11_chance 53 = .ok (.invokevirtual 206, 3) := by decide +kernel
theorem dX11_chance_56 : decode cX11_chance 56 = .ok (.ireturn, 1) := by decide +kernel
theorem dX11_read_0 : decode cX11_read 0 = .ok (.aload_n 0, 1) := by decide +kernel
theorem dX11_read_1 : decode cX11_read 1 = .ok (.iload_n 1, 1) := by decide +kernel
theorem dX11_read_2 : decode cX11_read 2 = .ok (.invokevirtual 277, 3) := by decide +kernel
theorem dX11_read_5 : decode cX11_read 5 = .ok (.istore_n 2, 1) := by decide +kernel
theorem dX11_read_6 : decode cX11_read 6 = .ok (.iload_n 2, 1) := by decide +kernel
theorem dX11_read_7 : decode cX11_read 7 = .ok (.ifCond .eq 5, 3) := by decide +kernel
theorem dX11_read_10 : decode cX11_read 10 = .ok (.iload_n 2, 1) := by decide +kernel
theorem dX11_read_11 : decode cX11_read 11 = .ok (.ireturn, 1) := by decide +kernel
theorem dX11_read_12 : decode cX11_read 12 = .ok (.aload_n 0, 1) := by decide +kernel
theorem dX11_read_13 : decode cX11_read 13 = .ok (.getfield 34, 3) := by decide +kernel
theorem dX11_read_16 : decode cX11_read 16 = .ok (.aload_n 0, 1) := by decide +kernel
theorem dX11_read_17 : decode cX11_read 17 = .ok (.getfield 11, 3) := by decide +kernel
theorem dX11_read_20 : decode cX11_read 20 = .ok (.iload_n 1, 1) := by decide +kernel
theorem dX11_read_21 : decode cX11_read 21 = .ok (.aaload, 1) := by decide +kernel
theorem dX11_read_22 : decode cX11_read 22 = .ok (.invokevirtual 280, 3) := by decide +kernel
theorem dX11_read_25 : decode cX11_read 25 = .ok (.aload_n 0, 1) := by decide +kernel
theorem dX11_read_26 : decode cX11_read 26 = .ok (.getfield 34, 3) := by decide +kernel
theorem dX11_read_29 : decode cX11_read 29 = .ok (.aload_n 0, 1) := by decide +kernel
theorem dX11_read_30 : decode cX11_read 30 = .ok (.getfield 34, 3) := by decide +kernel
theorem dX11_read_33 : decode cX11_read 33 = .ok (.getfield 271, 3) := by decide +kernel
theorem dX11_read_36 : decode cX11_read 36 = .ok (.invokevirtual 274, 3) := by decide +kernel
theorem dX11_read_39 : decode cX11_read 39 = .ok (.ifCond .ne 9, 3) := by decide +kernel
theorem dX11_read_42 : decode cX11_read 42 = .ok (.aload_n 0, 1) := by decide +kernel
theorem dX11_read_43 : decode cX11_read 43 = .ok (.iconst 4, 1) := by decide +kernel
theorem dX11_read_44 : decode cX11_read 44 = .ok (.invokevirtual 85, 3) := by decide +kernel
theorem dX11_read_47 : decode cX11_read 47 = .ok (.ireturn, 1) := by decide +kernel
theorem dX11_read_48 : decode cX11_read 48 = .ok (.aload_n 0, 1) := by decide +kernel
theorem dX11_read_49 : decode cX11_read 49 = .ok (.getfield 34, 3) := by decide +kernel
theorem dX11_read_52 : decode cX11_read 52 = .ok (.aload_n 0, 1) := by decide +kernel
theorem dX11_read_53 : decode cX11_read 53 = .ok (.getfield 34, 3) := by decide +kernel
theorem dX11_read_56 : decode cX11_read 56 = .ok (.getfield 271, 3) := by decide +kernel
theorem dX11_read_59 : decode cX11_read 59 = .ok (.invokevirtual 210, 3) := by decide +kernel
theorem dX11_read_62 : decode cX11_read 62 = .ok (.ireturn, 1) := by decide +kernel
theorem dX11_who_0 : decode cX11_who 0 = .ok (.aload_n 0, 1) := by decide +kernel
theorem dX11_who_1 : decode cX11_who 1 = .ok (.getfield 34, 3) := by decide +kernel
theorem dX11_who_4 : decode cX11_who 4 = .ok (.getfield 165, 3) := by decide +kernel
theorem dX11_who_7 : decode cX11_who 7 = .ok (.iload_n 1, 1) := by decide +kernel
theorem dX11_who_8 : decode cX11_who 8 = .ok (.invokevirtual 169, 3) := by decide +kernel
theorem dX11_who_11 : decode cX11_who 11 = .ok (.ifCond .eq 17, 3) := by decide +kernel
theorem dX11_who_14 : decode cX11_who 14 = .ok (.aload_n 0, 1) := by decide +kernel
theorem dX11_who_15 : decode cX11_who 15 = .ok (.getfield 34, 3) := by decide +kernel
theorem dX11_who_18 : decode cX11_who 18 = .ok (.getfield 165, 3) := by decide +kernel
theorem dX11_who_21 : decode cX11_who 21 = .ok (.iload_n 2, 1) := by decide +kernel
theorem dX11_who_22 : decode cX11_who 22 = .ok (.invokevirtual 169, 3) := by decide +kernel
theorem dX11_who_25 : decode cX11_who 25 = .ok (.ifCond .ne 5, 3) := by decide +kernel
theorem dX11_who_28 : decode cX11_who 28 = .ok (.iconst (-1), 1) := by decide +kernel
theorem dX11_who_29 : decode cX11_who 29 = .ok (.ireturn, 1) := by decide +kernel
theorem dX11_who_30 : decode cX11_who 30 = .ok (.aload_n 0, 1) := by decide +kernel
theorem dX11_who_31 : decode cX11_who 31 = .ok (.aload_n 0, 1) := by decide +kernel
theorem dX11_who_32 : decode cX11_who 32 = .ok (.getfield 34, 3) := by decide +kernel
theorem dX11_who_35 : decode cX11_who 35 = .ok (.iload_n 1, 1) := by decide +kernel
theorem dX11_who_36 : decode cX11_who 36 = .ok (.iload_n 2, 1) := by decide +kernel
theorem dX11_who_37 : decode cX11_who 37 = .ok (.invokevirtual 291, 3) := by decide +kernel
theorem dX11_who_40 : decode cX11_who 40 = .ok (.invokevirtual 75, 3) := by decide +kernel
theorem dX11_who_43 : decode cX11_who 43 = .ok (.aload_n 0, 1) := by decide +kernel
theorem dX11_who_44 : decode cX11_who 44 = .ok (.getfield 34, 3) := by decide +kernel
theorem dX11_who_47 : decode cX11_who 47 = .ok (.iload_n 1, 1) := by decide +kernel
theorem dX11_who_48 : decode cX11_who 48 = .ok (.iload_n 2, 1) := by decide +kernel
theorem dX11_who_49 : decode cX11_who 49 = .ok (.invokevirtual 294, 3) := by decide +kernel
theorem dX11_who_52 : decode cX11_who 52 = .ok (.ireturn, 1) := by decide +kernel
theorem dX11_ways_0 : decode cX11_ways 0 = .ok (.aload_n 0, 1) := by decide +kernel
theorem dX11_ways_1 : decode cX11_ways 1 = .ok (.getfield 34, 3) := by decide +kernel
theorem dX11_ways_4 : decode cX11_ways 4 = .ok (.iload_n 1, 1) := by decide +kernel
theorem dX11_ways_5 : decode cX11_ways 5 = .ok (.invokevirtual 118, 3) := by decide +kernel
theorem dX11_ways_8 : decode cX11_ways 8 = .ok (.astore 4, 2) := by decide +kernel
theorem dX11_ways_10 : decode cX11_ways 10 = .ok (.aload 4, 2) := by decide +kernel
theorem dX11_ways_12 : decode cX11_ways 12 = .ok (.ifnull 31, 3) := by decide +kernel
theorem dX11_ways_15 : decode cX11_ways 15 = .ok (.aload_n 0, 1) := by decide +kernel
theorem dX11_ways_16 : decode cX11_ways 16 = .ok (.getfield 34, 3) := by decide +kernel
theorem dX11_ways_19 : decode cX11_ways 19 = .ok (.getfield 165, 3) := by decide +kernel
theorem dX11_ways_22 : decode cX11_ways 22 = .ok (.iload_n 2, 1) := by decide +kernel
theorem dX11_ways_23 : decode cX11_ways 23 = .ok (.invokevirtual 169, 3) := by decide +kernel
theorem dX11_ways_26 : decode cX11_ways 26 = .ok (.ifCond .eq 17, 3) := by decide +kernel
theorem dX11_ways_29 : decode cX11_ways 29 = .ok (.aload_n 0, 1) := by decide +kernel
theorem dX11_ways_30 : decode cX11_ways 30 = .ok (.getfield 34, 3) := by decide +kernel
theorem dX11_ways_33 : decode cX11_ways 33 = .ok (.getfield 165, 3) := by decide +kernel
theorem dX11_ways_36 : decode cX11_ways 36 = .ok (.iload_n 3, 1) := by decide +kernel
theorem dX11_ways_37 : decode cX11_ways 37 = .ok (.invokevirtual 169, 3) := by decide +kernel
theorem dX11_ways_40 : decode cX11_ways 40 = .ok (.ifCond .ne 5, 3) := by decide +kernel
theorem dX11_ways_43 : decode cX11_ways 43 = .ok (.iconst (-1), 1) := by decide +kernel
theorem dX11_ways_44 : decode cX11_ways 44 = .ok (.ireturn, 1) := by decide +kernel
theorem dX11_ways_45 : decode cX11_ways 45 = .ok (.aload 4, 2) := by decide +kernel
theorem dX11_ways_47 : decode cX11_ways 47 = .ok (.aload_n 0, 1) := by decide +kernel
theorem dX11_ways_48 : decode cX11_ways 48 = .ok (.getfield 34, 3) := by decide +kernel
theorem dX11_ways_51 : decode cX11_ways 51 = .ok (.getfield 165, 3) := by decide +kernel
theorem dX11_ways_54 : decode cX11_ways 54 = .ok (.iload_n 2, 1) := by decide +kernel
theorem dX11_ways_55 : decode cX11_ways 55 = .ok (.iload_n 3, 1) := by decide +kernel
theorem dX11_ways_56 : decode cX11_ways 56 = .ok (.invokevirtual 297, 3) := by decide +kernel
theorem dX11_ways_59 : decode cX11_ways 59 = .ok (.invokevirtual 300, 3) := by decide +kernel
theorem dX11_ways_62 : decode cX11_ways 62 = .ok (.ireturn, 1) := by decide +kernel
theorem dX11_apart_0 : decode cX11_apart 0 = .ok (.aload_n 0, 1) := by decide +kernel
theorem dX11_apart_1 : decode cX11_apart 1 = .ok (.getfield 34, 3) := by decide +kernel
theorem dX11_apart_4 : decode cX11_apart 4 = .ok (.getfield 165, 3) := by decide +kernel
theorem dX11_apart_7 : decode cX11_apart 7 = .ok (.iload_n 1, 1) := by decide +kernel
theorem dX11_apart_8 : decode cX11_apart 8 = .ok (.invokevirtual 169, 3) := by decide +kernel
theorem dX11_apart_11 : decode cX11_apart 11 = .ok (.ifCond .eq 17, 3) := by decide +kernel
theorem dX11_apart_14 : decode cX11_apart 14 = .ok (.aload_n 0, 1) := by decide +kernel
theorem dX11_apart_15 : decode cX11_apart 15 = .ok (.getfield 34, 3) := by decide +kernel
theorem dX11_apart_18 : decode cX11_apart 18 = .ok (.getfield 165, 3) := by decide +kernel
theorem dX11_apart_21 : decode cX11_apart 21 = .ok (.iload_n 2, 1) := by decide +kernel
theorem dX11_apart_22 : decode cX11_apart 22 = .ok (.invokevirtual 169, 3) := by decide +kernel
theorem dX11_apart_25 : decode cX11_apart 25 = .ok (.ifCond .ne 5, 3) := by decide +kernel
theorem dX11_apart_28 : decode cX11_apart 28 = .ok (.iconst (-1), 1) := by decide +kernel
theorem dX11_apart_29 : decode cX11_apart 29 = .ok (.ireturn, 1) := by decide +kernel
theorem dX11_apart_30 : decode cX11_apart 30 = .ok (.aload_n 0, 1) := by decide +kernel
theorem dX11_apart_31 : decode cX11_apart 31 = .ok (.getfield 34, 3) := by decide +kernel
theorem dX11_apart_34 : decode cX11_apart 34 = .ok (.getfield 165, 3) := by decide +kernel
theorem dX11_apart_37 : decode cX11_apart 37 = .ok (.iload_n 1, 1) := by decide +kernel
theorem dX11_apart_38 : decode cX11_apart 38 = .ok (.iload_n 2, 1) := by decide +kernel
theorem dX11_apart_39 : decode cX11_apart 39 = .ok (.invokevirtual 297, 3) := by decide +kernel
theorem dX11_apart_42 : decode cX11_apart 42 = .ok (.istore_n 3, 1) := by decide +kernel
theorem dX11_apart_43 : decode cX11_apart 43 = .ok (.aload_n 0, 1) := by decide +kernel
theorem dX11_apart_44 : decode cX11_apart 44 = .ok (.aload_n 0, 1) := by decide +kernel
theorem dX11_apart_45 : decode cX11_apart 45 = .ok (.getfield 34, 3) := by decide +kernel
theorem dX11_apart_48 : decode cX11_apart 48 = .ok (.getfield 165, 3) := by decide +kernel
theorem dX11_apart_51 : decode cX11_apart 51 = .ok (.iload_n 3, 1) := by decide +kernel
theorem dX11_apart_52 : decode cX11_apart 52 = .ok (.invokevirtual 303, 3) := by decide +kernel
theorem dX11_apart_55 : decode cX11_apart 55 = .ok (.invokevirtual 75, 3) := by decide +kernel
theorem dX11_apart_58 : decode cX11_apart 58 = .ok (.aload_n 0, 1) := by decide +kernel
theorem dX11_apart_59 : decode cX11_apart 59 = .ok (.getfield 34, 3) := by decide +kernel
theorem dX11_apart_62 : decode cX11_apart 62 = .ok (.getfield 165, 3) := by decide +kernel
theorem dX11_apart_65 : decode cX11_apart 65 = .ok (.iload_n 3, 1) := by decide +kernel
theorem dX11_apart_66 : decode cX11_apart 66 = .ok (.invokevirtual 306, 3) := by decide +kernel
theorem dX11_apart_69 : decode cX11_apart 69 = .ok (.ireturn, 1) := by decide +kernel
theorem dX11_near_0 : decode cX11_near 0 = .ok (.aload_n 0, 1) := by decide +kernel
theorem dX11_near_1 : decode cX11_near 1 = .ok (.getfield 34, 3) := by decide +kernel
theorem dX11_near_4 : decode cX11_near 4 = .ok (.getfield 165, 3) := by decide +kernel
theorem dX11_near_7 : decode cX11_near 7 = .ok (.iload_n 1, 1) := by decide +kernel
theorem dX11_near_8 : decode cX11_near 8 = .ok (.invokevirtual 169, 3) := by decide +kernel
theorem dX11_near_11 : decode cX11_near 11 = .ok (.ifCond .eq 13, 3) := by decide +kernel
theorem dX11_near_14 : decode cX11_near 14 = .ok (.iload_n 2, 1) := by decide +kernel
theorem dX11_near_15 : decode cX11_near 15 = .ok (.ifCond .lt 9, 3) := by decide +kernel
theorem dX11_near_18 : decode cX11_near 18 = .ok (.iload_n 2, 1) := by decide +kernel
theorem dX11_near_19 : decode cX11_near 19 = .ok (.bipush 9, 2) := by decide +kernel
theorem dX11_near_21 : decode cX11_near 21 = .ok (.if_icmp .le 5, 3) := by decide +kernel
theorem dX11_near_24 : decode cX11_near 24 = .ok (.iconst (-1), 1) := by decide +kernel
theorem dX11_near_25 : decode cX11_near 25 = .ok (.ireturn, 1) := by decide +kernel
theorem dX11_near_26 : decode cX11_near 26 = .ok (.iconst 0, 1) := by decide +kernel
theorem dX11_near_27 : decode cX11_near 27 = .ok (.istore_n 3, 1) := by decide +kernel
theorem dX11_near_28 : decode cX11_near 28 = .ok (.iconst 0, 1) := by decide +kernel
theorem dX11_near_29 : decode cX11_near 29 = .ok (.istore 4, 2) := by decide +kernel
theorem dX11_near_31 : decode cX11_near 31 = .ok (.iload 4, 2) := by decide +kernel
theorem dX11_near_33 : decode cX11_near 33 = .ok (.aload_n 0, 1) := by decide +kernel
theorem dX11_near_34 : decode cX11_near 34 = .ok (.getfield 34, 3) := by decide +kernel
theorem dX11_near_37 : decode cX11_near 37 = .ok (.getfield 165, 3) := by decide +kernel
theorem dX11_near_40 : decode cX11_near 40 = .ok (.getfield 309, 3) := by decide +kernel
theorem dX11_near_43 : decode cX11_near 43 = .ok (.if_icmp .ge 44, 3) := by decide +kernel
theorem dX11_near_46 : decode cX11_near 46 = .ok (.iload_n 3, 1) := by decide +kernel
theorem dX11_near_47 : decode cX11_near 47 = .ok (.aload_n 0, 1) := by decide +kernel
theorem dX11_near_48 : decode cX11_near 48 = .ok (.getfield 34, 3) := by decide +kernel
theorem dX11_near_51 : decode cX11_near 51 = .ok (.getfield 165, 3) := by decide +kernel
theorem dX11_near_54 : decode cX11_near 54 = .ok (.aload_n 0, 1) := by decide +kernel
theorem dX11_near_55 : decode cX11_near 55 = .ok (.getfield 34, 3) := by decide +kernel
theorem dX11_near_58 : decode cX11_near 58 = .ok (.getfield 165, 3) := by decide +kernel
theorem dX11_near_61 : decode cX11_near 61 = .ok (.iload_n 1, 1) := by decide +kernel
theorem dX11_near_62 : decode cX11_near 62 = .ok (.iload 4, 2) := by decide +kernel
theorem dX11_near_64 : decode cX11_near 64 = .ok (.invokevirtual 297, 3) := by decide +kernel
theorem dX11_near_67 : decode cX11_near 67 = .ok (.invokevirtual 306, 3) := by decide +kernel
theorem dX11_near_70 : decode cX11_near 70 = .ok (.iload_n 2, 1) := by decide +kernel
theorem dX11_near_71 : decode cX11_near 71 = .ok (.if_icmp .gt 7, 3) := by decide +kernel
