theorem dX12_seen_33 : decode cX12_seen 33 = .ok (.lmul, 1) := by decide +kernel
theorem dX12_seen_34 : decode cX12_seen 34 = .ok (.invokevirtual 223, 3) := by decide +kernel
theorem dX12_seen_37 : decode cX12_seen 37 = .ok (.goto 4, 3) := by decide +kernel
theorem dX12_seen_40 : decode cX12_seen 40 = .ok (.iconst (-1), 1) := by decide +kernel
theorem dX12_seen_41 : decode cX12_seen 41 = .ok (.ireturn, 1) := by decide +kernel
theorem dX12_sights_0 : decode cX12_sights 0 = .ok (.aload_n 0, 1) := by decide +kernel
theorem dX12_sights_1 : decode cX12_sights 1 = .ok (.iload_n 1, 1) := by decide +kernel
theorem dX12_sights_2 : decode cX12_sights 2 = .ok (.invokevirtual 183, 3) := by decide +kernel
theorem dX12_sights_5 : decode cX12_sights 5 = .ok (.ifCond .ne 5, 3) := by decide +kernel
theorem dX12_sights_8 : decode cX12_sights 8 = .ok (.iconst (-1), 1) := by decide +kernel
theorem dX12_sights_9 : decode cX12_sights 9 = .ok (.ireturn, 1) := by decide +kernel
theorem dX12_sights_10 : decode cX12_sights 10 = .ok (.iconst 0, 1) := by decide +kernel
theorem dX12_sights_11 : decode cX12_sights 11 = .ok (.istore_n 2, 1) := by decide +kernel
theorem dX12_sights_12 : decode cX12_sights 12 = .ok (.lconst 0, 1) := by decide +kernel
theorem dX12_sights_13 : decode cX12_sights 13 = .ok (.lstore_n 3, 1) := by decide +kernel
theorem dX12_sights_14 : decode cX12_sights 14 = .ok (.iconst 0, 1) := by decide +kernel
theorem dX12_sights_15 : decode cX12_sights 15 = .ok (.istore 5, 2) := by decide +kernel
theorem dX12_sights_17 : decode cX12_sights 17 = .ok (.iload 5, 2) := by decide +kernel
theorem dX12_sights_19 : decode cX12_sights 19 = .ok (.aload_n 0, 1) := by decide +kernel
theorem dX12_sights_20 : decode cX12_sights 20 = .ok (.getfield 139, 3) := by decide +kernel
theorem dX12_sights_23 : decode cX12_sights 23 = .ok (.if_icmp .ge 67, 3) := by decide +kernel
theorem dX12_sights_26 : decode cX12_sights 26 = .ok (.aload_n 0, 1) := by decide +kernel
theorem dX12_sights_27 : decode cX12_sights 27 = .ok (.iload_n 1, 1) := by decide +kernel
theorem dX12_sights_28 : decode cX12_sights 28 = .ok (.iload 5, 2) := by decide +kernel
theorem dX12_sights_30 : decode cX12_sights 30 = .ok (.invokevirtual 242, 3) := by decide +kernel
theorem dX12_sights_33 : decode cX12_sights 33 = .ok (.lstore 6, 2) := by decide +kernel
theorem dX12_sights_35 : decode cX12_sights 35 = .ok (.iload_n 2, 1) := by decide +kernel
theorem dX12_sights_36 : decode cX12_sights 36 = .ok (.lload 6, 2) := by decide +kernel
theorem dX12_sights_38 : decode cX12_sights 38 = .ok (.lconst 0, 1) := by decide +kernel
theorem dX12_sights_39 : decode cX12_sights 39 = .ok (.lcmp, 1) := by decide +kernel
theorem dX12_sights_40 : decode cX12_sights 40 = .ok (.ifCond .le 7, 3) := by decide +kernel
theorem dX12_sights_43 : decode cX12_sights 43 = .ok (.iconst 1, 1) := by decide +kernel
theorem dX12_sights_44 : decode cX12_sights 44 = .ok (.goto 4, 3) := by decide +kernel
theorem dX12_sights_47 : decode cX12_sights 47 = .ok (.iconst 0, 1) := by decide +kernel
theorem dX12_sights_48 : decode cX12_sights 48 = .ok (.iadd, 1) := by decide +kernel
theorem dX12_sights_49 : decode cX12_sights 49 = .ok (.istore_n 2, 1) := by decide +kernel
theorem dX12_sights_50 : decode cX12_sights 50 = .ok (.aload_n 0, 1) := by decide +kernel
theorem dX12_sights_51 : decode cX12_sights 51 = .ok (.lload 6, 2) := by decide +kernel
theorem dX12_sights_53 : decode cX12_sights 53 = .ok (.lload_n 3, 1) := by decide +kernel
theorem dX12_sights_54 : decode cX12_sights 54 = .ok (.lcmp, 1) := by decide +kernel
theorem dX12_sights_55 : decode cX12_sights 55 = .ok (.ifCond .le 8, 3) := by decide +kernel
theorem dX12_sights_58 : decode cX12_sights 58 = .ok (.iload 5, 2) := by decide +kernel
theorem dX12_sights_60 : decode cX12_sights 60 = .ok (.goto 7, 3) := by decide +kernel
theorem dX12_sights_63 : decode cX12_sights 63 = .ok (.aload_n 0, 1) := by decide +kernel
theorem dX12_sights_64 : decode cX12_sights 64 = .ok (.getfield 52, 3) := by decide +kernel
theorem dX12_sights_67 : decode cX12_sights 67 = .ok (.putfield 52, 3) := by decide +kernel
theorem dX12_sights_70 : decode cX12_sights 70 = .ok (.lload 6, 2) := by decide +kernel
theorem dX12_sights_72 : decode cX12_sights 72 = .ok (.lload_n 3, 1) := by decide +kernel
theorem dX12_sights_73 : decode cX12_sights 73 = .ok (.lcmp, 1) := by decide +kernel
theorem dX12_sights_74 : decode cX12_sights 74 = .ok (.ifCond .le 8, 3) := by decide +kernel
theorem dX12_sights_77 : decode cX12_sights 77 = .ok (.lload 6, 2) := by decide +kernel
theorem dX12_sights_79 : decode cX12_sights 79 = .ok (.goto 4, 3) := by decide +kernel
theorem dX12_sights_82 : decode cX12_sights 82 = .ok (.lload_n 3, 1) := by decide +kernel
theorem dX12_sights_83 : decode cX12_sights 83 = .ok (.lstore_n 3, 1) := by decide +kernel
theorem dX12_sights_84 : decode cX12_sights 84 = .ok (.iinc 5 1, 3) := by decide +kernel
theorem dX12_sights_87 : decode cX12_sights 87 = .ok (.goto (-70), 3) := by decide +kernel
theorem dX12_sights_90 : decode cX12_sights 90 = .ok (.iload_n 2, 1) := by decide +kernel
theorem dX12_sights_91 : decode cX12_sights 91 = .ok (.ireturn, 1) := by decide +kernel
theorem dX12_noLooks_0 : decode cX12_noLooks 0 = .ok (.aload_n 0, 1) := by decide +kernel
theorem dX12_noLooks_1 : decode cX12_noLooks 1 = .ok (.getfield 142, 3) := by decide +kernel
theorem dX12_noLooks_4 : decode cX12_noLooks 4 = .ok (.ifCond .ne 6, 3) := by decide +kernel
theorem dX12_noLooks_7 : decode cX12_noLooks 7 = .ok (.bipush (-4), 2) := by decide +kernel
theorem dX12_noLooks_9 : decode cX12_noLooks 9 = .ok (.ireturn, 1) := by decide +kernel
theorem dX12_noLooks_10 : decode cX12_noLooks 10 = .ok (.aload_n 0, 1) := by decide +kernel
theorem dX12_noLooks_11 : decode cX12_noLooks 11 = .ok (.getfield 20, 3) := by decide +kernel
theorem dX12_noLooks_14 : decode cX12_noLooks 14 = .ok (.iload_n 1, 1) := by decide +kernel
theorem dX12_noLooks_15 : decode cX12_noLooks 15 = .ok (.iaload, 1) := by decide +kernel
theorem dX12_noLooks_16 : decode cX12_noLooks 16 = .ok (.ifCond .ge 9, 3) := by decide +kernel
theorem dX12_noLooks_19 : decode cX12_noLooks 19 = .ok (.aload_n 0, 1) := by decide +kernel
theorem dX12_noLooks_20 : decode cX12_noLooks 20 = .ok (.iconst 1, 1) := by decide +kernel
theorem dX12_noLooks_21 : decode cX12_noLooks 21 = .ok (.invokevirtual 67, 3) := by decide +kernel
theorem dX12_noLooks_24 : decode cX12_noLooks 24 = .ok (.ireturn, 1) := by decide +kernel
theorem dX12_noLooks_25 : decode cX12_noLooks 25 = .ok (.aload_n 0, 1) := by decide +kernel
theorem dX12_noLooks_26 : decode cX12_noLooks 26 = .ok (.getfield 20, 3) := by decide +kernel
theorem dX12_noLooks_29 : decode cX12_noLooks 29 = .ok (.iload_n 1, 1) := by decide +kernel
theorem dX12_noLooks_30 : decode cX12_noLooks 30 = .ok (.iaload, 1) := by decide +kernel
theorem dX12_noLooks_31 : decode cX12_noLooks 31 = .ok (.iconst 2, 1) := by decide +kernel
theorem dX12_noLooks_32 : decode cX12_noLooks 32 = .ok (.irem, 1) := by decide +kernel
theorem dX12_noLooks_33 : decode cX12_noLooks 33 = .ok (.ifCond .ne 14, 3) := by decide +kernel
theorem dX12_noLooks_36 : decode cX12_noLooks 36 = .ok (.aload_n 0, 1) := by decide +kernel
theorem dX12_noLooks_37 : decode cX12_noLooks 37 = .ok (.getfield 20, 3) := by decide +kernel
theorem dX12_noLooks_40 : decode cX12_noLooks 40 = .ok (.iload_n 1, 1) := by decide +kernel
theorem dX12_noLooks_41 : decode cX12_noLooks 41 = .ok (.iaload, 1) := by decide +kernel
theorem dX12_noLooks_42 : decode cX12_noLooks 42 = .ok (.bipush 12, 2) := by decide +kernel
theorem dX12_noLooks_44 : decode cX12_noLooks 44 = .ok (.if_icmp .le 9, 3) := by decide +kernel
theorem dX12_noLooks_47 : decode cX12_noLooks 47 = .ok (.aload_n 0, 1) := by decide +kernel
theorem dX12_noLooks_48 : decode cX12_noLooks 48 = .ok (.iconst 5, 1) := by decide +kernel
theorem dX12_noLooks_49 : decode cX12_noLooks 49 = .ok (.invokevirtual 67, 3) := by decide +kernel
theorem dX12_noLooks_52 : decode cX12_noLooks 52 = .ok (.ireturn, 1) := by decide +kernel
theorem dX12_noLooks_53 : decode cX12_noLooks 53 = .ok (.iconst 1, 1) := by decide +kernel
theorem dX12_noLooks_54 : decode cX12_noLooks 54 = .ok (.istore_n 2, 1) := by decide +kernel
theorem dX12_noLooks_55 : decode cX12_noLooks 55 = .ok (.bipush 40, 2) := by decide +kernel
theorem dX12_noLooks_57 : decode cX12_noLooks 57 = .ok (.iload_n 1, 1) := by decide +kernel
theorem dX12_noLooks_58 : decode cX12_noLooks 58 = .ok (.imul, 1) := by decide +kernel
theorem dX12_noLooks_59 : decode cX12_noLooks 59 = .ok (.istore_n 3, 1) := by decide +kernel
theorem dX12_noLooks_60 : decode cX12_noLooks 60 = .ok (.iload_n 3, 1) := by decide +kernel
theorem dX12_noLooks_61 : decode cX12_noLooks 61 = .ok (.bipush 40, 2) := by decide +kernel
theorem dX12_noLooks_63 : decode cX12_noLooks 63 = .ok (.iload_n 1, 1) := by decide +kernel
theorem dX12_noLooks_64 : decode cX12_noLooks 64 = .ok (.imul, 1) := by decide +kernel
theorem dX12_noLooks_65 : decode cX12_noLooks 65 = .ok (.aload_n 0, 1) := by decide +kernel
theorem dX12_noLooks_66 : decode cX12_noLooks 66 = .ok (.getfield 20, 3) := by decide +kernel
theorem dX12_noLooks_69 : decode cX12_noLooks 69 = .ok (.iload_n 1, 1) := by decide +kernel
theorem dX12_noLooks_70 : decode cX12_noLooks 70 = .ok (.iaload, 1) := by decide +kernel
theorem dX12_noLooks_71 : decode cX12_noLooks 71 = .ok (.iadd, 1) := by decide +kernel
theorem dX12_noLooks_72 : decode cX12_noLooks 72 = .ok (.if_icmp .ge 47, 3) := by decide +kernel
theorem dX12_noLooks_75 : decode cX12_noLooks 75 = .ok (.iload_n 2, 1) := by decide +kernel
theorem dX12_noLooks_76 : decode cX12_noLooks 76 = .ok (.ifCond .eq 35, 3) := by decide +kernel
theorem dX12_noLooks_79 : decode cX12_noLooks 79 = .ok (.aload_n 0, 1) := by decide +kernel
theorem dX12_noLooks_80 : decode cX12_noLooks 80 = .ok (.aload_n 0, 1) := by decide +kernel
theorem dX12_noLooks_81 : decode cX12_noLooks 81 = .ok (.getfield 23, 3) := by decide +kernel
theorem dX12_noLooks_84 : decode cX12_noLooks 84 = .ok (.iload_n 3, 1) := by decide +kernel
theorem dX12_noLooks_85 : decode cX12_noLooks 85 = .ok (.iaload, 1) := by decide +kernel
theorem dX12_noLooks_86 : decode cX12_noLooks 86 = .ok (.invokevirtual 183, 3) := by decide +kernel
theorem dX12_noLooks_89 : decode cX12_noLooks 89 = .ok (.ifCond .eq 22, 3) := by decide +kernel
theorem dX12_noLooks_92 : decode cX12_noLooks 92 = .ok (.aload_n 0, 1) := by decide +kernel
theorem dX12_noLooks_93 : decode cX12_noLooks 93 = .ok (.aload_n 0, 1) := by decide +kernel
theorem dX12_noLooks_94 : decode cX12_noLooks 94 = .ok (.getfield 23, 3) := by decide +kernel
theorem dX12_noLooks_97 : decode cX12_noLooks 97 = .ok (.iload_n 3, 1) := by decide +kernel
theorem dX12_noLooks_98 : decode cX12_noLooks 98 = .ok (.iconst 1, 1) := by decide +kernel
theorem dX12_noLooks_99 : decode cX12_noLooks 99 = .ok (.iadd, 1) := by decide +kernel
theorem dX12_noLooks_100 : decode cX12_noLooks 100 = .ok (.iaload, 1) := by decide +kernel
theorem dX12_noLooks_101 : decode cX12_noLooks 101 = .ok (.invokevirtual 205, 3) := by decide +kernel
theorem dX12_noLooks_104 : decode cX12_noLooks 104 = .ok (.ifCond .eq 7, 3) := by decide +kernel
theorem dX12_noLooks_107 : decode cX12_noLooks 107 = .ok (.iconst 1, 1) := by decide +kernel
theorem dX12_noLooks_108 : decode cX12_noLooks 108 = .ok (.goto 4, 3) := by decide +kernel
theorem dX12_noLooks_111 : decode cX12_noLooks 111 = .ok (.iconst 0, 1) := by decide +kernel
theorem dX12_noLooks_112 : decode cX12_noLooks 112 = .ok (.istore_n 2, 1) := by decide +kernel
theorem dX12_noLooks_113 : decode cX12_noLooks 113 = .ok (.iinc 3 2, 3) := by decide +kernel
theorem dX12_noLooks_116 : decode cX12_noLooks 116 = .ok (.goto (-56), 3) := by decide +kernel
theorem dX12_noLooks_119 : decode cX12_noLooks 119 = .ok (.iconst 0, 1) := by decide +kernel
theorem dX12_noLooks_120 : decode cX12_noLooks 120 = .ok (.istore_n 3, 1) := by decide +kernel
theorem dX12_noLooks_121 : decode cX12_noLooks 121 = .ok (.iload_n 3, 1) := by decide +kernel
theorem dX12_noLooks_122 : decode cX12_noLooks 122 = .ok (.aload_n 0, 1) := by decide +kernel
theorem dX12_noLooks_123 : decode cX12_noLooks 123 = .ok (.getfield 139, 3) := by decide +kernel
theorem dX12_noLooks_126 : decode cX12_noLooks 126 = .ok (.if_icmp .ge 79, 3) := by decide +kernel
theorem dX12_noLooks_129 : decode cX12_noLooks 129 = .ok (.iload_n 2, 1) := by decide +kernel
theorem dX12_noLooks_130 : decode cX12_noLooks 130 = .ok (.ifCond .eq 75, 3) := by decide +kernel
theorem dX12_noLooks_133 : decode cX12_noLooks 133 = .ok (.aload_n 0, 1) := by decide +kernel
theorem dX12_noLooks_134 : decode cX12_noLooks 134 = .ok (.getfield 45, 3) := by decide +kernel
theorem dX12_noLooks_137 : decode cX12_noLooks 137 = .ok (.iload_n 3, 1) := by decide +kernel
theorem dX12_noLooks_138 : decode cX12_noLooks 138 = .ok (.lconst 1, 1) := by decide +kernel
theorem dX12_noLooks_139 : decode cX12_noLooks 139 = .ok (.lastore, 1) := by decide +kernel
theorem dX12_noLooks_140 : decode cX12_noLooks 140 = .ok (.bipush 40, 2) := by decide +kernel
theorem dX12_noLooks_142 : decode cX12_noLooks 142 = .ok (.iload_n 1, 1) := by decide +kernel
theorem dX12_noLooks_143 : decode cX12_noLooks 143 = .ok (.imul, 1) := by decide +kernel
theorem dX12_noLooks_144 : decode cX12_noLooks 144 = .ok (.istore 4, 2) := by decide +kernel
theorem dX12_noLooks_146 : decode cX12_noLooks 146 = .ok (.iload 4, 2) := by decide +kernel
theorem dX12_noLooks_148 : decode cX12_noLooks 148 = .ok (.bipush 40, 2) := by decide +kernel
theorem dX12_noLooks_150 : decode cX12_noLooks 150 = .ok (.iload_n 1, 1) := by decide +kernel
theorem dX12_noLooks_151 : decode cX12_noLooks 151 = .ok (.imul, 1) := by decide +kernel
theorem dX12_noLooks_152 : decode cX12_noLooks 152 = .ok (.aload_n 0, 1) := by decide +kernel
theorem dX12_noLooks_153 : decode cX12_noLooks 153 = .ok (.getfield 20, 3) := by decide +kernel
theorem dX12_noLooks_156 : decode cX12_noLooks 156 = .ok (.iload_n 1, 1) := by decide +kernel
theorem dX12_noLooks_157 : decode cX12_noLooks 157 = .ok (.iaload, 1) := by decide +kernel
theorem dX12_noLooks_158 : decode cX12_noLooks 158 = .ok (.iadd, 1) := by decide +kernel
theorem dX12_noLooks_159 : decode cX12_noLooks 159 = .ok (.if_icmp .ge 40, 3) := by decide +kernel
theorem dX12_noLooks_162 : decode cX12_noLooks 162 = .ok (.aload_n 0, 1) := by decide +kernel
theorem dX12_noLooks_163 : decode cX12_noLooks 163 = .ok (.getfield 45, 3) := by decide +kernel
theorem dX12_noLooks_166 : decode cX12_noLooks 166 = .ok (.iload_n 3, 1) := by decide +kernel
theorem dX12_noLooks_167 : decode cX12_noLooks 167 = .ok (.dup2, 1) := by decide +kernel
theorem dX12_noLooks_168 : decode cX12_noLooks 168 = .ok (.laload, 1) := by decide +kernel
theorem dX12_noLooks_169 : decode cX12_noLooks 169 = .ok (.aload_n 0, 1) := by decide +kernel
theorem dX12_noLooks_170 : decode cX12_noLooks 170 = .ok (.aload_n 0, 1) := by decide +kernel
theorem dX12_noLooks_171 : decode cX12_noLooks 171 = .ok (.getfield 23, 3) := by decide +kernel
theorem dX12_noLooks_174 : decode cX12_noLooks 174 = .ok (.iload 4, 2) := by decide +kernel
theorem dX12_noLooks_176 : decode cX12_noLooks 176 = .ok (.iaload, 1) := by decide +kernel
theorem dX12_noLooks_177 : decode cX12_noLooks 177 = .ok (.iload_n 3, 1) := by decide +kernel
theorem dX12_noLooks_178 : decode cX12_noLooks 178 = .ok (.aload_n 0, 1) := by decide +kernel
theorem dX12_noLooks_179 : decode cX12_noLooks 179 = .ok (.getfield 23, 3) := by decide +kernel
theorem dX12_noLooks_182 : decode cX12_noLooks 182 = .ok (.iload 4, 2) := by decide +kernel
theorem dX12_noLooks_184 : decode cX12_noLooks 184 = .ok (.iconst 1, 1) := by decide +kernel
theorem dX12_noLooks_185 : decode cX12_noLooks 185 = .ok (.iadd, 1) := by decide +kernel
theorem dX12_noLooks_186 : decode cX12_noLooks 186 = .ok (.iaload, 1) := by decide +kernel
theorem dX12_noLooks_187 : decode cX12_noLooks 187 = .ok (.invokevirtual 170, 3) := by decide +kernel
theorem dX12_noLooks_190 : decode cX12_noLooks 190 = .ok (.i2l, 1) := by decide +kernel
theorem dX12_noLooks_191 : decode cX12_noLooks 191 = .ok (.lmul, 1) := by decide +kernel
theorem dX12_noLooks_192 : decode cX12_noLooks 192 = .ok (.lastore, 1) := by decide +kernel
theorem dX12_noLooks_193 : decode cX12_noLooks 193 = .ok (.iinc 4 2, 3) := by decide +kernel
theorem dX12_noLooks_196 : decode cX12_noLooks 196 = .ok (.goto (-50), 3) := by decide +kernel
theorem dX12_noLooks_199 : decode cX12_noLooks 199 = .ok (.iinc 3 1, 3) := by decide +kernel
theorem dX12_noLooks_202 : decode cX12_noLooks 202 = .ok (.goto (-81), 3) := by decide +kernel
theorem dX12_noLooks_205 : decode cX12_noLooks 205 = .ok (.iload_n 2, 1) := by decide +kernel
theorem dX12_noLooks_206 : decode cX12_noLooks 206 = .ok (.ifCond .eq 7, 3) := by decide +kernel
theorem dX12_noLooks_209 : decode cX12_noLooks 209 = .ok (.iconst 0, 1) := by decide +kernel
theorem dX12_noLooks_210 : decode cX12_noLooks 210 = .ok (.goto 8, 3) := by decide +kernel
theorem dX12_noLooks_213 : decode cX12_noLooks 213 = .ok (.aload_n 0, 1) := by decide +kernel
theorem dX12_noLooks_214 : decode cX12_noLooks 214 = .ok (.iconst 3, 1) := by decide +kernel
theorem dX12_noLooks_215 : decode cX12_noLooks 215 = .ok (.invokevirtual 67, 3) := by decide +kernel
theorem dX12_noLooks_218 : decode cX12_noLooks 218 = .ok (.ireturn, 1) := by decide +kernel
theorem dX12_fits_0 : decode cX12_fits 0 = .ok (.iload_n 1, 1) := by decide +kernel
theorem dX12_fits_1 : decode cX12_fits 1 = .ok (.invokestatic 63, 3) := by decide +kernel
theorem dX12_fits_4 : decode cX12_fits 4 = .ok (.ifCond .ne 5, 3) := by decide +kernel
theorem dX12_fits_7 : decode cX12_fits 7 = .ok (.iconst (-1), 1) := by decide +kernel
theorem dX12_fits_8 : decode cX12_fits 8 = .ok (.ireturn, 1) := by decide +kernel
theorem dX12_fits_9 : decode cX12_fits 9 = .ok (.aload_n 0, 1) := by decide +kernel
theorem dX12_fits_10 : decode cX12_fits 10 = .ok (.iload_n 1, 1) := by decide +kernel
theorem dX12_fits_11 : decode cX12_fits 11 = .ok (.invokevirtual 245, 3) := by decide +kernel
theorem dX12_fits_14 : decode cX12_fits 14 = .ok (.istore_n 2, 1) := by decide +kernel
theorem dX12_fits_15 : decode cX12_fits 15 = .ok (.iload_n 2, 1) := by decide +kernel
theorem dX12_fits_16 : decode cX12_fits 16 = .ok (.ifCond .eq 5, 3) := by decide +kernel
theorem dX12_fits_19 : decode cX12_fits 19 = .ok (.iload_n 2, 1) := by decide +kernel
theorem dX12_fits_20 : decode cX12_fits 20 = .ok (.ireturn, 1) := by decide +kernel
theorem dX12_fits_21 : decode cX12_fits 21 = .ok (.iconst 0, 1) := by decide +kernel
theorem dX12_fits_22 : decode cX12_fits 22 = .ok (.istore_n 3, 1) := by decide +kernel
theorem dX12_fits_23 : decode cX12_fits 23 = .ok (.aload_n 0, 1) := by decide +kernel
theorem dX12_fits_24 : decode cX12_fits 24 = .ok (.bipush (-9), 2) := by decide +kernel
theorem dX12_fits_26 : decode cX12_fits 26 = .ok (.putfield 52, 3) := by decide +kernel
theorem dX12_fits_29 : decode cX12_fits 29 = .ok (.aload_n 0, 1) := by decide +kernel
theorem dX12_fits_30 : decode cX12_fits 30 = .ok (.getfield 139, 3) := by decide +kernel
theorem dX12_fits_33 : decode cX12_fits 33 = .ok (.iconst 1, 1) := by decide +kernel
theorem dX12_fits_34 : decode cX12_fits 34 = .ok (.isub, 1) := by decide +kernel
theorem dX12_fits_35 : decode cX12_fits 35 = .ok (.istore 4, 2) := by decide +kernel
theorem dX12_fits_37 : decode cX12_fits 37 = .ok (.iload 4, 2) := by decide +kernel
theorem dX12_fits_39 : decode cX12_fits 39 = .ok (.ifCond .lt 54, 3) := by decide +kernel
theorem dX12_fits_42 : decode cX12_fits 42 = .ok (.iload_n 3, 1) := by decide +kernel
theorem dX12_fits_43 : decode cX12_fits 43 = .ok (.aload_n 0, 1) := by decide +kernel
theorem dX12_fits_44 : decode cX12_fits 44 = .ok (.getfield 45, 3) := by decide +kernel
theorem dX12_fits_47 : decode cX12_fits 47 = .ok (.iload 4, 2) := by decide +kernel
theorem dX12_fits_49 : decode cX12_fits 49 = .ok (.laload, 1) := by decide +kernel
theorem dX12_fits_50 : decode cX12_fits 50 = .ok (.lconst 0, 1) := by decide +kernel
theorem dX12_fits_51 : decode cX12_fits 51 = .ok (.lcmp, 1) := by decide +kernel
theorem dX12_fits_52 : decode cX12_fits 52 = .ok (.ifCond .le 7, 3) := by decide +kernel
theorem dX12_fits_55 : decode cX12_fits 55 = .ok (.iconst 1, 1) := by decide +kernel
theorem dX12_fits_56 : decode cX12_fits 56 = .ok (.goto 4, 3) := by decide +kernel
theorem dX12_fits_59 : decode cX12_fits 59 = .ok (.iconst 0, 1) := by decide +kernel
theorem dX12_fits_60 : decode cX12_fits 60 = .ok (.iadd, 1) := by decide +kernel
theorem dX12_fits_61 : decode cX12_fits 61 = .ok (.istore_n 3, 1) := by decide +kernel
theorem dX12_fits_62 : decode cX12_fits 62 = .ok (.aload_n 0, 1) := by decide +kernel
theorem dX12_fits_63 : decode cX12_fits 63 = .ok (.aload_n 0, 1) := by decide +kernel
theorem dX12_fits_64 : decode cX12_fits 64 = .ok (.getfield 45, 3) := by decide +kernel
theorem dX12_fits_67 : decode cX12_fits 67 = .ok (.iload 4, 2) := by decide +kernel
theorem dX12_fits_69 : decode cX12_fits 69 = .ok (.laload, 1) := by decide +kernel
theorem dX12_fits_70 : decode cX12_fits 70 = .ok (.lconst 0, 1) := by decide +kernel
theorem dX12_fits_71 : decode cX12_fits 71 = .ok (.lcmp, 1) := by decide +kernel
theorem dX12_fits_72 : decode cX12_fits 72 = .ok (.ifCond .le 8, 3) := by decide +kernel
theorem dX12_fits_75 : decode cX12_fits 75 = .ok (.iload 4, 2) := by decide +kernel
theorem dX12_fits_77 : decode cX12_fits 77 = .ok (.goto 7, 3) := by decide +kernel
theorem dX12_fits_80 : decode cX12_fits 80 = .ok (.aload_n 0, 1) := by decide +kernel
theorem dX12_fits_81 : decode cX12_fits 81 = .ok (.getfield 52, 3) := by decide +kernel
theorem dX12_fits_84 : decode cX12_fits 84 = .ok (.putfield 52, 3) := by decide +kernel
theorem dX12_fits_87 : decode cX12_fits 87 = .ok (.iinc 4 (-1), 3) := by decide +kernel
theorem dX12_fits_90 : decode cX12_fits 90 = .ok (.goto (-53), 3) := by decide +kernel
theorem dX12_fits_93 : decode cX12_fits 93 = .ok (.iload_n 3, 1) := by decide +kernel
theorem dX12_fits_94 : decode cX12_fits 94 = .ok (.ireturn, 1) := by decide +kernel
theorem dX12_chance_0 : decode cX12_chance 0 = .ok (.iload_n 1, 1) := by decide +kernel
theorem dX12_chance_1 : decode cX12_chance 1 = .ok (.invokestatic 63, 3) := by decide +kernel
theorem dX12_chance_4 : decode cX12_chance 4 = .ok (.ifCond .ne 5, 3) := by decide +kernel
theorem dX12_chance_7 : decode cX12_chance 7 = .ok (.iconst (-1), 1) := by decide +kernel
theorem dX12_chance_8 : decode cX12_chance 8 = .ok (.ireturn, 1) := by decide +kernel
theorem dX12_chance_9 : decode cX12_chance 9 = .ok (.aload_n 0, 1) := by decide +kernel
theorem dX12_chance_10 : decode cX12_chance 10 = .ok (.iload_n 1, 1) := by decide +kernel
theorem dX12_chance_11 : decode cX12_chance 11 = .ok (.invokevirtual 245, 3) := by decide +kernel
theorem dX12_chance_14 : decode cX12_chance 14 = .ok (.istore_n 2, 1) := by decide +kernel
theorem dX12_chance_15 : decode cX12_chance 15 = .ok (.iload_n 2, 1) := by decide +kernel
theorem dX12_chance_16 : decode cX12_chance 16 = .ok (.ifCond .eq 5, 3) := by decide +kernel
theorem dX12_chance_19 : decode cX12_chance 19 = .ok (.iload_n 2, 1) := by decide +kernel
theorem dX12_chance_20 : decode cX12_chance 20 = .ok (.ireturn, 1) := by decide +kernel
theorem dX12_chance_21 : decode cX12_chance 21 = .ok (.lconst 0, 1) := by decide +kernel
theorem dX12_chance_22 : decode cX12_chance 22 = .ok (.lstore_n 3, 1) := by decide +kernel
theorem dX12_chance_23 : decode cX12_chance 23 = .ok (.aload_n 0, 1) := by decide +kernel
theorem dX12_chance_24 : decode cX12_chance 24 = .ok (.getfield 139, 3) := by decide +kernel
theorem dX12_chance_27 : decode cX12_chance 27 = .ok (.i2l, 1) := by decide +kernel
theorem dX12_chance_28 : decode cX12_chance 28 = .ok (.lstore 5, 2) := by decide +kernel
theorem dX12_chance_30 : decode cX12_chance 30 = .ok (.iconst 0, 1) := by decide +kernel
theorem dX12_chance_31 : decode cX12_chance 31 = .ok (.istore 7, 2) := by decide +kernel
theorem dX12_chance_33 : decode cX12_chance 33 = .ok (.iload 7, 2) := by decide +kernel
theorem dX12_chance_35 : decode cX12_chance 35 = .ok (.aload_n 0, 1) := by decide +kernel
theorem dX12_chance_36 : decode cX12_chance 36 = .ok (.getfield 139, 3) := by decide +kernel
theorem dX12_chance_39 : decode cX12_chance 39 = .ok (.if_icmp .ge 19, 3) := by decide +kernel
theorem dX12_chance_42 : decode cX12_chance 42 = .ok (.lload_n 3, 1) := by decide +kernel
theorem dX12_chance_43 : decode cX12_chance 43 = .ok (.aload_n 0, 1) := by decide +kernel
theorem dX12_chance_44 : decode cX12_chance 44 = .ok (.getfield 45, 3) := by decide +kernel
theorem dX12_chance_47 : decode cX12_chance 47 = .ok (.iload 7, 2) := by decide +kernel
theorem dX12_chance_49 : decode cX12_chance 49 = .ok (.laload, 1) := by decide +kernel
theorem dX12_chance_50 : decode cX12_chance 50 = .ok (.ladd, 1) := by decide +kernel
theorem dX12_chance_51 : decode cX12_chance 51 = .ok (.lstore_n 3, 1) := by decide +kernel
theorem dX12_chance_52 : decode cX12_chance 52 = .ok (.iinc 7 1, 3) := by decide +kernel
theorem dX12_chance_55 : decode cX12_chance 55 = .ok (.goto (-22), 3) := by decide +kernel
theorem dX12_chance_58 : decode cX12_chance 58 = .ok (.bipush 40, 2) := by decide +kernel
theorem dX12_chance_60 : decode cX12_chance 60 = .ok (.iload_n 1, 1) := by decide +kernel
theorem dX12_chance_61 : decode cX12_chance 61 = .ok (.imul, 1) := by decide +kernel
theorem dX12_chance_62 : decode cX12_chance 62 = .ok (.istore 7, 2) := by decide +kernel
theorem dX12_chance_64 : decode cX12_chance 64 = .ok (.iload 7, 2) := by decide +kernel
theorem dX12_chance_66 : decode cX12_chance 66 = .ok (.bipush 40, 2) := by decide +kernel
theorem dX12_chance_68 : decode cX12_chance 68 = .ok (.iload_n 1, 1) := by decide +kernel
theorem dX12_chance_69 : decode cX12_chance 69 = .ok (.imul, 1) := by decide +kernel
theorem dX12_chance_70 : decode cX12_chance 70 = .ok (.aload_n 0, 1) := by decide +kernel
theorem dX12_chance_71 : decode cX12_chance 71 = .ok (.getfield 20, 3) := by decide +kernel
theorem dX12_chance_74 : decode cX12_chance 74 = .ok (.iload_n 1, 1) := by decide +kernel
theorem dX12_chance_75 : decode cX12_chance 75 = .ok (.iaload, 1) := by decide +kernel
theorem dX12_chance_76 : decode cX12_chance 76 = .ok (.iadd, 1) := by decide +kernel
theorem dX12_chance_77 : decode cX12_chance 77 = .ok (.if_icmp .ge 26, 3) := by decide +kernel
theorem dX12_chance_80 : decode cX12_chance 80 = .ok (.lload 5, 2) := by decide +kernel
theorem dX12_chance_82 : decode cX12_chance 82 = .ok (.aload_n 0, 1) := by decide +kernel
theorem dX12_chance_83 : decode cX12_chance 83 = .ok (.aload_n 0, 1) := by decide +kernel
theorem dX12_chance_84 : decode cX12_chance 84 = .ok (.getfield 23, 3) := by decide +kernel
theorem dX12_chance_87 : decode cX12_chance 87 = .ok (.iload 7, 2) := by decide +kernel
theorem dX12_chance_89 : decode cX12_chance 89 = .ok (.iaload, 1) := by decide +kernel
theorem dX12_chance_90 : decode cX12_chance 90 = .ok (.invokevirtual 177, 3) := by decide +kernel
theorem dX12_chance_93 : decode cX12_chance 93 = .ok (.i2l, 1) := by decide +kernel
theorem dX12_chance_94 : decode cX12_chance 94 = .ok (.lmul, 1) := by decide +kernel
theorem dX12_chance_95 : decode cX12_chance 95 = .ok (.lstore 5, 2) := by decide +kernel
theorem dX12_chance_97 : decode cX12_chance 97 = .ok (.iinc 7 2, 3) := by decide +kernel
theorem dX12_chance_100 : decode cX12_chance 100 = .ok (.goto (-36), 3) := by decide +kernel
theorem dX12_chance_103 : decode cX12_chance 103 = .ok (.aload_n 0, 1) := by decide +kernel
theorem dX12_chance_104 : decode cX12_chance 104 = .ok (.lload_n 3, 1) := by decide +kernel
theorem dX12_chance_105 : decode cX12_chance 105 = .ok (.lload 5, 2) := by decide +kernel
theorem dX12_chance_107 : decode cX12_chance 107 = .ok (.invokevirtual 223, 3) := by decide +kernel
theorem dX12_chance_110 : decode cX12_chance 110 = .ok (.ireturn, 1) := by decide +kernel
theorem dX12_read_0 : decode cX12_read 0 = .ok (.iload_n 1, 1) := by decide +kernel
theorem dX12_read_1 : decode cX12_read 1 = .ok (.invokestatic 63, 3) := by decide +kernel
theorem dX12_read_4 : decode cX12_read 4 = .ok (.ifCond .ne 5, 3) := by decide +kernel
theorem dX12_read_7 : decode cX12_read 7 = .ok (.iconst (-1), 1) := by decide +kernel
theorem dX12_read_8 : decode cX12_read 8 = .ok (.ireturn, 1) := by decide +kernel
theorem dX12_read_9 : decode cX12_read 9 = .ok (.aload_n 0, 1) := by decide +kernel
theorem dX12_read_10 : decode cX12_read 10 = .ok (.iload_n 1, 1) := by decide +kernel
theorem dX12_read_11 : decode cX12_read 11 = .ok (.invokevirtual 245, 3) := by decide +kernel
theorem dX12_read_14 : decode cX12_read 14 = .ok (.istore_n 2, 1) := by decide +kernel
theorem dX12_read_15 : decode cX12_read 15 = .ok (.iload_n 2, 1) := by decide +kernel
theorem dX12_read_16 : decode cX12_read 16 = .ok (.ifCond .eq 5, 3) := by decide +kernel
theorem dX12_read_19 : decode cX12_read 19 = .ok (.iload_n 2, 1) := by decide +kernel
theorem dX12_read_20 : decode cX12_read 20 = .ok (.ireturn, 1) := by decide +kernel
theorem dX12_read_21 : decode cX12_read 21 = .ok (.iconst 0, 1) := by decide +kernel
theorem dX12_read_22 : decode cX12_read 22 = .ok (.istore_n 3, 1) := by decide +kernel
theorem dX12_read_23 : decode cX12_read 23 = .ok (.iconst 0, 1) := by decide +kernel
theorem dX12_read_24 : decode cX12_read 24 = .ok (.istore 4, 2) := by decide +kernel
theorem dX12_read_26 : decode cX12_read 26 = .ok (.iload 4, 2) := by decide +kernel
theorem dX12_read_28 : decode cX12_read 28 = .ok (.aload_n 0, 1) := by decide +kernel
theorem dX12_read_29 : decode cX12_read 29 = .ok (.getfield 139, 3) := by decide +kernel
theorem dX12_read_32 : decode cX12_read 32 = .ok (.if_icmp .ge 33, 3) := by decide +kernel
theorem dX12_read_35 : decode cX12_read 35 = .ok (.aload_n 0, 1) := by decide +kernel
theorem dX12_read_36 : decode cX12_read 36 = .ok (.getfield 45, 3) := by decide +kernel
theorem dX12_read_39 : decode cX12_read 39 = .ok (.iload 4, 2) := by decide +kernel
theorem dX12_read_41 : decode cX12_read 41 = .ok (.laload, 1) := by decide +kernel
theorem dX12_read_42 : decode cX12_read 42 = .ok (.aload_n 0, 1) := by decide +kernel
theorem dX12_read_43 : decode cX12_read 43 = .ok (.getfield 45, 3) := by decide +kernel
theorem dX12_read_46 : decode cX12_read 46 = .ok (.iload_n 3, 1) := by decide +kernel
theorem dX12_read_47 : decode cX12_read 47 = .ok (.laload, 1) := by decide +kernel
theorem dX12_read_48 : decode cX12_read 48 = .ok (.lcmp, 1) := by decide +kernel
theorem dX12_read_49 : decode cX12_read 49 = .ok (.ifCond .le 8, 3) := by decide +kernel
theorem dX12_read_52 : decode cX12_read 52 = .ok (.iload 4, 2) := by decide +kernel
theorem dX12_read_54 : decode cX12_read 54 = .ok (.goto 4, 3) := by decide +kernel
theorem dX12_read_57 : decode cX12_read 57 = .ok (.iload_n 3, 1) := by decide +kernel
theorem dX12_read_58 : decode cX12_read 58 = .ok (.istore_n 3, 1) := by decide +kernel
theorem dX12_read_59 : decode cX12_read 59 = .ok (.iinc 4 1, 3) := by decide +kernel
theorem dX12_read_62 : decode cX12_read 62 = .ok (.goto (-36), 3) := by decide +kernel
theorem dX12_read_65 : decode cX12_read 65 = .ok (.aload_n 0, 1) := by decide +kernel
theorem dX12_read_66 : decode cX12_read 66 = .ok (.getfield 45, 3) := by decide +kernel
theorem dX12_read_69 : decode cX12_read 69 = .ok (.iload_n 3, 1) := by decide +kernel
theorem dX12_read_70 : decode cX12_read 70 = .ok (.laload, 1) := by decide +kernel
theorem dX12_read_71 : decode cX12_read 71 = .ok (.lconst 0, 1) := by decide +kernel
theorem dX12_read_72 : decode cX12_read 72 = .ok (.lcmp, 1) := by decide +kernel
theorem dX12_read_73 : decode cX12_read 73 = .ok (.ifCond .ne 11, 3) := by decide +kernel
theorem dX12_read_76 : decode cX12_read 76 = .ok (.aload_n 0, 1) := by decide +kernel
theorem dX12_read_77 : decode cX12_read 77 = .ok (.iconst 4, 1) := by decide +kernel
theorem dX12_read_78 : decode cX12_read 78 = .ok (.invokevirtual 67, 3) := by decide +kernel
theorem dX12_read_81 : decode cX12_read 81 = .ok (.goto 4, 3) := by decide +kernel
theorem dX12_read_84 : decode cX12_read 84 = .ok (.iload_n 3, 1) := by decide +kernel
theorem dX12_read_85 : decode cX12_read 85 = .ok (.ireturn, 1) := by decide +kernel
theorem dX12_who_0 : decode cX12_who 0 = .ok (.aload_n 0, 1) := by decide +kernel
theorem dX12_who_1 : decode cX12_who 1 = .ok (.iload_n 1, 1) := by decide +kernel
theorem dX12_who_2 : decode cX12_who 2 = .ok (.invokevirtual 205, 3) := by decide +kernel
theorem dX12_who_5 : decode cX12_who 5 = .ok (.ifCond .eq 11, 3) := by decide +kernel
theorem dX12_who_8 : decode cX12_who 8 = .ok (.aload_n 0, 1) := by decide +kernel
theorem dX12_who_9 : decode cX12_who 9 = .ok (.iload_n 2, 1) := by decide +kernel
theorem dX12_who_10 : decode cX12_who 10 = .ok (.invokevirtual 205, 3) := by decide +kernel
theorem dX12_who_13 : decode cX12_who 13 = .ok (.ifCond .ne 5, 3) := by decide +kernel
theorem dX12_who_16 : decode cX12_who 16 = .ok (.iconst (-1), 1) := by decide +kernel
theorem dX12_who_17 : decode cX12_who 17 = .ok (.ireturn, 1) := by decide +kernel
theorem dX12_who_18 : decode cX12_who 18 = .ok (.iconst 0, 1) := by decide +kernel
theorem dX12_who_19 : decode cX12_who 19 = .ok (.istore_n 3, 1) := by decide +kernel
theorem dX12_who_20 : decode cX12_who 20 = .ok (.aload_n 0, 1) := by decide +kernel
theorem dX12_who_21 : decode cX12_who 21 = .ok (.bipush (-9), 2) := by decide +kernel
theorem dX12_who_23 : decode cX12_who 23 = .ok (.putfield 52, 3) := by decide +kernel
theorem dX12_who_26 : decode cX12_who 26 = .ok (.iconst 0, 1) := by decide +kernel
theorem dX12_who_27 : decode cX12_who 27 = .ok (.istore 4, 2) := by decide +kernel
theorem dX12_who_29 : decode cX12_who 29 = .ok (.iload 4, 2) := by decide +kernel
theorem dX12_who_31 : decode cX12_who 31 = .ok (.aload_n 0, 1) := by decide +kernel
theorem dX12_who_32 : decode cX12_who 32 = .ok (.getfield 142, 3) := by decide +kernel
theorem dX12_who_35 : decode cX12_who 35 = .ok (.if_icmp .ge 105, 3) := by decide +kernel
theorem dX12_who_38 : decode cX12_who 38 = .ok (.aload_n 0, 1) := by decide +kernel
theorem dX12_who_39 : decode cX12_who 39 = .ok (.iload 4, 2) := by decide +kernel
theorem dX12_who_41 : decode cX12_who 41 = .ok (.iload_n 1, 1) := by decide +kernel
theorem dX12_who_42 : decode cX12_who 42 = .ok (.iload_n 2, 1) := by decide +kernel
theorem dX12_who_43 : decode cX12_who 43 = .ok (.invokevirtual 170, 3) := by decide +kernel
theorem dX12_who_46 : decode cX12_who 46 = .ok (.istore 5, 2) := by decide +kernel
theorem dX12_who_48 : decode cX12_who 48 = .ok (.iload_n 3, 1) := by decide +kernel
theorem dX12_who_49 : decode cX12_who 49 = .ok (.iload 5, 2) := by decide +kernel
theorem dX12_who_51 : decode cX12_who 51 = .ok (.ifCond .le 10, 3) := by decide +kernel
theorem dX12_who_54 : decode cX12_who 54 = .ok (.iconst 1, 1) := by decide +kernel
theorem dX12_who_55 : decode cX12_who 55 = .ok (.iload 4, 2) := by decide +kernel
theorem dX12_who_57 : decode cX12_who 57 = .ok (.ishl, 1) := by decide +kernel
theorem dX12_who_58 : decode cX12_who 58 = .ok (.goto 4, 3) := by decide +kernel
theorem dX12_who_61 : decode cX12_who 61 = .ok (.iconst 0, 1) := by decide +kernel
theorem dX12_who_62 : decode cX12_who 62 = .ok (.ior, 1) := by decide +kernel
theorem dX12_who_63 : decode cX12_who 63 = .ok (.istore_n 3, 1) := by decide +kernel
theorem dX12_who_64 : decode cX12_who 64 = .ok (.iload 5, 2) := by decide +kernel
theorem dX12_who_66 : decode cX12_who 66 = .ok (.ifCond .le 47, 3) := by decide +kernel
theorem dX12_who_69 : decode cX12_who 69 = .ok (.aload_n 0, 1) := by decide +kernel
theorem dX12_who_70 : decode cX12_who 70 = .ok (.getfield 52, 3) := by decide +kernel
theorem dX12_who_73 : decode cX12_who 73 = .ok (.bipush (-9), 2) := by decide +kernel
theorem dX12_who_75 : decode cX12_who 75 = .ok (.if_icmp .eq 34, 3) := by decide +kernel
theorem dX12_who_78 : decode cX12_who 78 = .ok (.iload 5, 2) := by decide +kernel
theorem dX12_who_80 : decode cX12_who 80 = .ok (.aload_n 0, 1) := by decide +kernel
theorem dX12_who_81 : decode cX12_who 81 = .ok (.aload_n 0, 1) := by decide +kernel
theorem dX12_who_82 : decode cX12_who 82 = .ok (.getfield 52, 3) := by decide +kernel
theorem dX12_who_85 : decode cX12_who 85 = .ok (.invokevirtual 177, 3) := by decide +kernel
theorem dX12_who_88 : decode cX12_who 88 = .ok (.imul, 1) := by decide +kernel
theorem dX12_who_89 : decode cX12_who 89 = .ok (.aload_n 0, 1) := by decide +kernel
theorem dX12_who_90 : decode cX12_who 90 = .ok (.aload_n 0, 1) := by decide +kernel
theorem dX12_who_91 : decode cX12_who 91 = .ok (.getfield 52, 3) := by decide +kernel
theorem dX12_who_94 : decode cX12_who 94 = .ok (.iload_n 1, 1) := by decide +kernel
theorem dX12_who_95 : decode cX12_who 95 = .ok (.iload_n 2, 1) := by decide +kernel
theorem dX12_who_96 : decode cX12_who 96 = .ok (.invokevirtual 170, 3) := by decide +kernel
theorem dX12_who_99 : decode cX12_who 99 = .ok (.aload_n 0, 1) := by decide +kernel
theorem dX12_who_100 : decode cX12_who 100 = .ok (.iload 4, 2) := by decide +kernel
theorem dX12_who_102 : decode cX12_who 102 = .ok (.invokevirtual 177, 3) := by decide +kernel
theorem dX12_who_105 : decode cX12_who 105 = .ok (.imul, 1) := by decide +kernel
theorem dX12_who_106 : decode cX12_who 106 = .ok (.if_icmp .le 7, 3) := by decide +kernel
theorem dX12_who_109 : decode cX12_who 109 = .ok (.iconst 1, 1) := by decide +kernel
theorem dX12_who_110 : decode cX12_who 110 = .ok (.goto 4, 3) := by decide +kernel
theorem dX12_who_113 : decode cX12_who 113 = .ok (.iconst 0, 1) := by decide +kernel
theorem dX12_who_114 : decode cX12_who 114 = .ok (.istore 6, 2) := by decide +kernel
theorem dX12_who_116 : decode cX12_who 116 = .ok (.aload_n 0, 1) := by decide +kernel
theorem dX12_who_117 : decode cX12_who 117 = .ok (.iload 6, 2) := by decide +kernel
theorem dX12_who_119 : decode cX12_who 119 = .ok (.ifCond .eq 8, 3) := by decide +kernel
theorem dX12_who_122 : decode cX12_who 122 = .ok (.iload 4, 2) := by decide +kernel
theorem dX12_who_124 : decode cX12_who 124 = .ok (.goto 7, 3) := by decide +kernel
theorem dX12_who_127 : decode cX12_who 127 = .ok (.aload_n 0, 1) := by decide +kernel
theorem dX12_who_128 : decode cX12_who 128 = .ok (.getfield 52, 3) := by decide +kernel
theorem dX12_who_131 : decode cX12_who 131 = .ok (.putfield 52, 3) := by decide +kernel
theorem dX12_who_134 : decode cX12_who 134 = .ok (.iinc 4 1, 3) := by decide +kernel
theorem dX12_who_137 : decode cX12_who 137 = .ok (.goto (-108), 3) := by decide +kernel
theorem dX12_who_140 : decode cX12_who 140 = .ok (.iload_n 3, 1) := by decide +kernel
theorem dX12_who_141 : decode cX12_who 141 = .ok (.ireturn, 1) := by decide +kernel
theorem dX12_ways_0 : decode cX12_ways 0 = .ok (.aload_n 0, 1) := by decide +kernel
theorem dX12_ways_1 : decode cX12_ways 1 = .ok (.iload_n 1, 1) := by decide +kernel
theorem dX12_ways_2 : decode cX12_ways 2 = .ok (.invokevirtual 183, 3) := by decide +kernel
theorem dX12_ways_5 : decode cX12_ways 5 = .ok (.ifCond .eq 29, 3) := by decide +kernel
theorem dX12_ways_8 : decode cX12_ways 8 = .ok (.aload_n 0, 1) := by decide +kernel
theorem dX12_ways_9 : decode cX12_ways 9 = .ok (.iload_n 2, 1) := by decide +kernel
theorem dX12_ways_10 : decode cX12_ways 10 = .ok (.invokevirtual 205, 3) := by decide +kernel
theorem dX12_ways_13 : decode cX12_ways 13 = .ok (.ifCond .eq 21, 3) := by decide +kernel
theorem dX12_ways_16 : decode cX12_ways 16 = .ok (.aload_n 0, 1) := by decide +kernel
theorem dX12_ways_17 : decode cX12_ways 17 = .ok (.iload_n 3, 1) := by decide +kernel
theorem dX12_ways_18 : decode cX12_ways 18 = .ok (.invokevirtual 205, 3) := by decide +kernel
theorem dX12_ways_21 : decode cX12_ways 21 = .ok (.ifCond .eq 13, 3) := by decide +kernel
theorem dX12_ways_24 : decode cX12_ways 24 = .ok (.aload_n 0, 1) := by decide +kernel
theorem dX12_ways_25 : decode cX12_ways 25 = .ok (.iload_n 1, 1) := by decide +kernel
theorem dX12_ways_26 : decode cX12_ways 26 = .ok (.iload_n 2, 1) := by decide +kernel
theorem dX12_ways_27 : decode cX12_ways 27 = .ok (.iload_n 3, 1) := by decide +kernel
theorem dX12_ways_28 : decode cX12_ways 28 = .ok (.invokevirtual 170, 3) := by decide +kernel
theorem dX12_ways_31 : decode cX12_ways 31 = .ok (.goto 4, 3) := by decide +kernel
theorem dX12_ways_34 : decode cX12_ways 34 = .ok (.iconst (-1), 1) := by decide +kernel
theorem dX12_ways_35 : decode cX12_ways 35 = .ok (.ireturn, 1) := by decide +kernel
theorem dX12_far_0 : decode cX12_far 0 = .ok (.iconst 0, 1) := by decide +kernel
theorem dX12_far_1 : decode cX12_far 1 = .ok (.istore_n 3, 1) := by decide +kernel
theorem dX12_far_2 : decode cX12_far 2 = .ok (.iconst 0, 1) := by decide +kernel
theorem dX12_far_3 : decode cX12_far 3 = .ok (.istore 4, 2) := by decide +kernel
theorem dX12_far_5 : decode cX12_far 5 = .ok (.iload 4, 2) := by decide +kernel
theorem dX12_far_7 : decode cX12_far 7 = .ok (.aload_n 0, 1) := by decide +kernel
theorem dX12_far_8 : decode cX12_far 8 = .ok (.getfield 130, 3) := by decide +kernel
theorem dX12_far_11 : decode cX12_far 11 = .ok (.if_icmp .ge 46, 3) := by decide +kernel
theorem dX12_far_14 : decode cX12_far 14 = .ok (.aload_n 0, 1) := by decide +kernel
theorem dX12_far_15 : decode cX12_far 15 = .ok (.iload 4, 2) := by decide +kernel
theorem dX12_far_17 : decode cX12_far 17 = .ok (.iload_n 1, 1) := by decide +kernel
theorem dX12_far_18 : decode cX12_far 18 = .ok (.iload_n 2, 1) := by decide +kernel
theorem dX12_far_19 : decode cX12_far 19 = .ok (.invokevirtual 157, 3) := by decide +kernel
theorem dX12_far_22 : decode cX12_far 22 = .ok (.istore 5, 2) := by decide +kernel
theorem dX12_far_24 : decode cX12_far 24 = .ok (.iload_n 3, 1) := by decide +kernel
theorem dX12_far_25 : decode cX12_far 25 = .ok (.iload 5, 2) := by decide +kernel
theorem dX12_far_27 : decode cX12_far 27 = .ok (.aload_n 0, 1) := by decide +kernel
theorem dX12_far_28 : decode cX12_far 28 = .ok (.getfield 133, 3) := by decide +kernel
theorem dX12_far_31 : decode cX12_far 31 = .ok (.iload 5, 2) := by decide +kernel
theorem dX12_far_33 : decode cX12_far 33 = .ok (.isub, 1) := by decide +kernel
theorem dX12_far_34 : decode cX12_far 34 = .ok (.if_icmp .ge 8, 3) := by decide +kernel
theorem dX12_far_37 : decode cX12_far 37 = .ok (.iload 5, 2) := by decide +kernel
theorem dX12_far_39 : decode cX12_far 39 = .ok (.goto 10, 3) := by decide +kernel
theorem dX12_far_42 : decode cX12_far 42 = .ok (.aload_n 0, 1) := by decide +kernel
theorem dX12_far_43 : decode cX12_far 43 = .ok (.getfield 133, 3) := by decide +kernel
theorem dX12_far_46 : decode cX12_far 46 = .ok (.iload 5, 2) := by decide +kernel
theorem dX12_far_48 : decode cX12_far 48 = .ok (.isub, 1) := by decide +kernel
theorem dX12_far_49 : decode cX12_far 49 = .ok (.iadd, 1) := by decide +kernel
theorem dX12_far_50 : decode cX12_far 50 = .ok (.istore_n 3, 1) := by decide +kernel
theorem dX12_far_51 : decode cX12_far 51 = .ok (.iinc 4 1, 3) := by decide +kernel
theorem dX12_far_54 : decode cX12_far 54 = .ok (.goto (-49), 3) := by decide +kernel
theorem dX12_far_57 : decode cX12_far 57 = .ok (.iload_n 3, 1) := by decide +kernel
theorem dX12_far_58 : decode cX12_far 58 = .ok (.ireturn, 1) := by decide +kernel
theorem dX12_apart_0 : decode cX12_apart 0 = .ok (.aload_n 0, 1) := by decide +kernel
theorem dX12_apart_1 : decode cX12_apart 1 = .ok (.iload_n 1, 1) := by decide +kernel
theorem dX12_apart_2 : decode cX12_apart 2 = .ok (.invokevirtual 205, 3) := by decide +kernel
theorem dX12_apart_5 : decode cX12_apart 5 = .ok (.ifCond .eq 11, 3) := by decide +kernel
theorem dX12_apart_8 : decode cX12_apart 8 = .ok (.aload_n 0, 1) := by decide +kernel
theorem dX12_apart_9 : decode cX12_apart 9 = .ok (.iload_n 2, 1) := by decide +kernel
theorem dX12_apart_10 : decode cX12_apart 10 = .ok (.invokevirtual 205, 3) := by decide +kernel
theorem dX12_apart_13 : decode cX12_apart 13 = .ok (.ifCond .ne 5, 3) := by decide +kernel
theorem dX12_apart_16 : decode cX12_apart 16 = .ok (.iconst (-1), 1) := by decide +kernel
theorem dX12_apart_17 : decode cX12_apart 17 = .ok (.ireturn, 1) := by decide +kernel
theorem dX12_apart_18 : decode cX12_apart 18 = .ok (.aload_n 0, 1) := by decide +kernel
theorem dX12_apart_19 : decode cX12_apart 19 = .ok (.iconst 0, 1) := by decide +kernel
theorem dX12_apart_20 : decode cX12_apart 20 = .ok (.putfield 52, 3) := by decide +kernel
theorem dX12_apart_23 : decode cX12_apart 23 = .ok (.iconst 0, 1) := by decide +kernel
theorem dX12_apart_24 : decode cX12_apart 24 = .ok (.istore_n 3, 1) := by decide +kernel
theorem dX12_apart_25 : decode cX12_apart 25 = .ok (.iload_n 3, 1) := by decide +kernel
theorem dX12_apart_26 : decode cX12_apart 26 = .ok (.aload_n 0, 1) := by decide +kernel
theorem dX12_apart_27 : decode cX12_apart 27 = .ok (.getfield 130, 3) := by decide +kernel
theorem dX12_apart_30 : decode cX12_apart 30 = .ok (.if_icmp .ge 33, 3) := by decide +kernel
theorem dX12_apart_33 : decode cX12_apart 33 = .ok (.aload_n 0, 1) := by decide +kernel
theorem dX12_apart_34 : decode cX12_apart 34 = .ok (.dup, 1) := by decide +kernel
theorem dX12_apart_35 : decode cX12_apart 35 = .ok (.getfield 52, 3) := by decide +kernel
theorem dX12_apart_38 : decode cX12_apart 38 = .ok (.aload_n 0, 1) := by decide +kernel
theorem dX12_apart_39 : decode cX12_apart 39 = .ok (.iload_n 3, 1) := by decide +kernel
theorem dX12_apart_40 : decode cX12_apart 40 = .ok (.iload_n 1, 1) := by decide +kernel
theorem dX12_apart_41 : decode cX12_apart 41 = .ok (.iload_n 2, 1) := by decide +kernel
theorem dX12_apart_42 : decode cX12_apart 42 = .ok (.invokevirtual 157, 3) := by decide +kernel
theorem dX12_apart_45 : decode cX12_apart 45 = .ok (.ifCond .ne 7, 3) := by decide +kernel
theorem dX12_apart_48 : decode cX12_apart 48 = .ok (.iconst 0, 1) := by decide +kernel
theorem dX12_apart_49 : decode cX12_apart 49 = .ok (.goto 4, 3) := by decide +kernel
theorem dX12_apart_52 : decode cX12_apart 52 = .ok (.iconst 1, 1) := by decide +kernel
theorem dX12_apart_53 : decode cX12_apart 53 = .ok (.iadd, 1) := by decide +kernel
theorem dX12_apart_54 : decode cX12_apart 54 = .ok (.putfield 52, 3) := by decide +kernel
theorem dX12_apart_57 : decode cX12_apart 57 = .ok (.iinc 3 1, 3) := by decide +kernel
theorem dX12_apart_60 : decode cX12_apart 60 = .ok (.goto (-35), 3) := by decide +kernel
theorem dX12_apart_63 : decode cX12_apart 63 = .ok (.aload_n 0, 1) := by decide +kernel
theorem dX12_apart_64 : decode cX12_apart 64 = .ok (.iload_n 1, 1) := by decide +kernel
theorem dX12_apart_65 : decode cX12_apart 65 = .ok (.iload_n 2, 1) := by decide +kernel
theorem dX12_apart_66 : decode cX12_apart 66 = .ok (.invokevirtual 248, 3) := by decide +kernel
theorem dX12_apart_69 : decode cX12_apart 69 = .ok (.ireturn, 1) := by decide +kernel
theorem dX12_near_0 : decode cX12_near 0 = .ok (.aload_n 0, 1) := by decide +kernel
theorem dX12_near_1 : decode cX12_near 1 = .ok (.iload_n 1, 1) := by decide +kernel
theorem dX12_near_2 : decode cX12_near 2 = .ok (.invokevirtual 205, 3) := by decide +kernel
theorem dX12_near_5 : decode cX12_near 5 = .ok (.ifCond .eq 15, 3) := by decide +kernel
theorem dX12_near_8 : decode cX12_near 8 = .ok (.iload_n 2, 1) := by decide +kernel
theorem dX12_near_9 : decode cX12_near 9 = .ok (.i2l, 1) := by decide +kernel
theorem dX12_near_10 : decode cX12_near 10 = .ok (.lconst 0, 1) := by decide +kernel
theorem dX12_near_11 : decode cX12_near 11 = .ok (.ldc2_w 251, 3) := by decide +kernel
theorem dX12_near_14 : decode cX12_near 14 = .ok (.invokestatic 57, 3) := by decide +kernel
theorem dX12_near_17 : decode cX12_near 17 = .ok (.ifCond .ne 5, 3) := by decide +kernel
theorem dX12_near_20 : decode cX12_near 20 = .ok (.iconst (-1), 1) := by decide +kernel
theorem dX12_near_21 : decode cX12_near 21 = .ok (.ireturn, 1) := by decide +kernel
theorem dX12_near_22 : decode cX12_near 22 = .ok (.iconst 0, 1) := by decide +kernel
theorem dX12_near_23 : decode cX12_near 23 = .ok (.istore_n 3, 1) := by decide +kernel
theorem dX12_near_24 : decode cX12_near 24 = .ok (.iconst 0, 1) := by decide +kernel
theorem dX12_near_25 : decode cX12_near 25 = .ok (.istore 4, 2) := by decide +kernel
theorem dX12_near_27 : decode cX12_near 27 = .ok (.iload 4, 2) := by decide +kernel
theorem dX12_near_29 : decode cX12_near 29 = .ok (.aload_n 0, 1) := by decide +kernel
theorem dX12_near_30 : decode cX12_near 30 = .ok (.getfield 139, 3) := by decide +kernel
theorem dX12_near_33 : decode cX12_near 33 = .ok (.if_icmp .ge 28, 3) := by decide +kernel
theorem dX12_near_36 : decode cX12_near 36 = .ok (.iload_n 3, 1) := by decide +kernel
theorem dX12_near_37 : decode cX12_near 37 = .ok (.aload_n 0, 1) := by decide +kernel
theorem dX12_near_38 : decode cX12_near 38 = .ok (.iload_n 1, 1) := by decide +kernel
theorem dX12_near_39 : decode cX12_near 39 = .ok (.iload 4, 2) := by decide +kernel
theorem dX12_near_41 : decode cX12_near 41 = .ok (.invokevirtual 248, 3) := by decide +kernel
theorem dX12_near_44 : decode cX12_near 44 = .ok (.iload_n 2, 1) := by decide +kernel
theorem dX12_near_45 : decode cX12_near 45 = .ok (.if_icmp .gt 7, 3) := by decide +kernel
theorem dX12_near_48 : decode cX12_near 48 = .ok (.iconst 1, 1) := by decide +kernel
theorem dX12_near_49 : decode cX12_near 49 = .ok (.goto 4, 3) := by decide +kernel
theorem dX12_near_52 : decode cX12_near 52 = .ok (.iconst 0, 1) := by decide +kernel
theorem dX12_near_53 : decode cX12_near 53 = .ok (.iadd, 1) := by decide +kernel
theorem dX12_near_54 : decode cX12_near 54 = .ok (.istore_n 3, 1) := by decide +kernel
theorem dX12_near_55 : decode cX12_near 55 = .ok (.iinc 4 1, 3) := by decide +kernel
theorem dX12_near_58 : decode cX12_near 58 = .ok (.goto (-31), 3) := by decide +kernel
theorem dX12_near_61 : decode cX12_near 61 = .ok (.iload_n 3, 1) := by decide +kernel
theorem dX12_near_62 : decode cX12_near 62 = .ok (.ireturn, 1) := by decide +kernel
theorem dX12_broughtTo_0 : decode cX12_broughtTo 0 = .ok (.iload_n 3, 1) := by decide +kernel
theorem dX12_broughtTo_1 : decode cX12_broughtTo 1 = .ok (.istore 4, 2) := by decide +kernel
theorem dX12_broughtTo_3 : decode cX12_broughtTo 3 = .ok (.iconst 0, 1) := by decide +kernel
theorem dX12_broughtTo_4 : decode cX12_broughtTo 4 = .ok (.istore 5, 2) := by decide +kernel
theorem dX12_broughtTo_6 : decode cX12_broughtTo 6 = .ok (.iload 4, 2) := by decide +kernel
theorem dX12_broughtTo_8 : decode cX12_broughtTo 8 = .ok (.aload_n 0, 1) := by decide +kernel
theorem dX12_broughtTo_9 : decode cX12_broughtTo 9 = .ok (.iload_n 1, 1) := by decide +kernel
theorem dX12_broughtTo_10 : decode cX12_broughtTo 10 = .ok (.iload_n 2, 1) := by decide +kernel
theorem dX12_broughtTo_11 : decode cX12_broughtTo 11 = .ok (.iload 5, 2) := by decide +kernel
theorem dX12_broughtTo_13 : decode cX12_broughtTo 13 = .ok (.invokevirtual 170, 3) := by decide +kernel
theorem dX12_broughtTo_16 : decode cX12_broughtTo 16 = .ok (.if_icmp .lt 22, 3) := by decide +kernel
theorem dX12_broughtTo_19 : decode cX12_broughtTo 19 = .ok (.iload 4, 2) := by decide +kernel
theorem dX12_broughtTo_21 : decode cX12_broughtTo 21 = .ok (.aload_n 0, 1) := by decide +kernel
theorem dX12_broughtTo_22 : decode cX12_broughtTo 22 = .ok (.iload_n 1, 1) := by decide +kernel
theorem dX12_broughtTo_23 : decode cX12_broughtTo 23 = .ok (.iload_n 2, 1) := by decide +kernel
theorem dX12_broughtTo_24 : decode cX12_broughtTo 24 = .ok (.iload 5, 2) := by decide +kernel
theorem dX12_broughtTo_26 : decode cX12_broughtTo 26 = .ok (.invokevirtual 170, 3) := by decide +kernel
theorem dX12_broughtTo_29 : decode cX12_broughtTo 29 = .ok (.isub, 1) := by decide +kernel
theorem dX12_broughtTo_30 : decode cX12_broughtTo 30 = .ok (.istore 4, 2) := by decide +kernel
theorem dX12_broughtTo_32 : decode cX12_broughtTo 32 = .ok (.iinc 5 1, 3) := by decide +kernel
theorem dX12_broughtTo_35 : decode cX12_broughtTo 35 = .ok (.goto (-29), 3) := by decide +kernel
theorem dX12_broughtTo_38 : decode cX12_broughtTo 38 = .ok (.iload 5, 2) := by decide +kernel
theorem dX12_broughtTo_40 : decode cX12_broughtTo 40 = .ok (.ireturn, 1) := by decide +kernel
theorem dX12_lots_0 : decode cX12_lots 0 = .ok (.iload_n 1, 1) := by decide +kernel
theorem dX12_lots_1 : decode cX12_lots 1 = .ok (.i2l, 1) := by decide +kernel
theorem dX12_lots_2 : decode cX12_lots 2 = .ok (.lconst 1, 1) := by decide +kernel
theorem dX12_lots_3 : decode cX12_lots 3 = .ok (.ldc2_w 253, 3) := by decide +kernel
theorem dX12_lots_6 : decode cX12_lots 6 = .ok (.invokestatic 57, 3) := by decide +kernel
theorem dX12_lots_9 : decode cX12_lots 9 = .ok (.ifCond .eq 15, 3) := by decide +kernel
theorem dX12_lots_12 : decode cX12_lots 12 = .ok (.iload_n 2, 1) := by decide +kernel
theorem dX12_lots_13 : decode cX12_lots 13 = .ok (.i2l, 1) := by decide +kernel
theorem dX12_lots_14 : decode cX12_lots 14 = .ok (.lconst 1, 1) := by decide +kernel
theorem dX12_lots_15 : decode cX12_lots 15 = .ok (.ldc2_w 255, 3) := by decide +kernel
theorem dX12_lots_18 : decode cX12_lots 18 = .ok (.invokestatic 57, 3) := by decide +kernel
theorem dX12_lots_21 : decode cX12_lots 21 = .ok (.ifCond .ne 5, 3) := by decide +kernel
theorem dX12_lots_24 : decode cX12_lots 24 = .ok (.iconst (-1), 1) := by decide +kernel
theorem dX12_lots_25 : decode cX12_lots 25 = .ok (.ireturn, 1) := by decide +kernel
theorem dX12_lots_26 : decode cX12_lots 26 = .ok (.aload_n 0, 1) := by decide +kernel
theorem dX12_lots_27 : decode cX12_lots 27 = .ok (.getfield 142, 3) := by decide +kernel
theorem dX12_lots_30 : decode cX12_lots 30 = .ok (.ifCond .ne 6, 3) := by decide +kernel
theorem dX12_lots_33 : decode cX12_lots 33 = .ok (.bipush (-4), 2) := by decide +kernel
theorem dX12_lots_35 : decode cX12_lots 35 = .ok (.ireturn, 1) := by decide +kernel
theorem dX12_lots_36 : decode cX12_lots 36 = .ok (.iload_n 2, 1) := by decide +kernel
theorem dX12_lots_37 : decode cX12_lots 37 = .ok (.i2l, 1) := by decide +kernel
theorem dX12_lots_38 : decode cX12_lots 38 = .ok (.ldc2_w 257, 3) := by decide +kernel
theorem dX12_lots_41 : decode cX12_lots 41 = .ok (.lmul, 1) := by decide +kernel
theorem dX12_lots_42 : decode cX12_lots 42 = .ok (.ldc2_w 259, 3) := by decide +kernel
theorem dX12_lots_45 : decode cX12_lots 45 = .ok (.lrem, 1) := by decide +kernel
theorem dX12_lots_46 : decode cX12_lots 46 = .ok (.lstore_n 3, 1) := by decide +kernel
theorem dX12_lots_47 : decode cX12_lots 47 = .ok (.lload_n 3, 1) := by decide +kernel
theorem dX12_lots_48 : decode cX12_lots 48 = .ok (.aload_n 0, 1) := by decide +kernel
theorem dX12_lots_49 : decode cX12_lots 49 = .ok (.getfield 139, 3) := by decide +kernel
theorem dX12_lots_52 : decode cX12_lots 52 = .ok (.i2l, 1) := by decide +kernel
theorem dX12_lots_53 : decode cX12_lots 53 = .ok (.lrem, 1) := by decide +kernel
theorem dX12_lots_54 : decode cX12_lots 54 = .ok (.l2i, 1) := by decide +kernel
theorem dX12_lots_55 : decode cX12_lots 55 = .ok (.istore 5, 2) := by decide +kernel
theorem dX12_lots_57 : decode cX12_lots 57 = .ok (.aload_n 0, 1) := by decide +kernel
theorem dX12_lots_58 : decode cX12_lots 58 = .ok (.getfield 7, 3) := by decide +kernel
theorem dX12_lots_61 : decode cX12_lots 61 = .ok (.iconst 0, 1) := by decide +kernel
theorem dX12_lots_62 : decode cX12_lots 62 = .ok (.iload_n 1, 1) := by decide +kernel
theorem dX12_lots_63 : decode cX12_lots 63 = .ok (.iastore, 1) := by decide +kernel
theorem dX12_lots_64 : decode cX12_lots 64 = .ok (.iconst 0, 1) := by decide +kernel
theorem dX12_lots_65 : decode cX12_lots 65 = .ok (.istore 6, 2) := by decide +kernel
theorem dX12_lots_67 : decode cX12_lots 67 = .ok (.iload 6, 2) := by decide +kernel
theorem dX12_lots_69 : decode cX12_lots 69 = .ok (.iload_n 1, 1) := by decide +kernel
theorem dX12_lots_70 : decode cX12_lots 70 = .ok (.if_icmp .ge 87, 3) := by decide +kernel
theorem dX12_lots_73 : decode cX12_lots 73 = .ok (.lload_n 3, 1) := by decide +kernel
theorem dX12_lots_74 : decode cX12_lots 74 = .ok (.ldc2_w 257, 3) := by decide +kernel
theorem dX12_lots_77 : decode cX12_lots 77 = .ok (.lmul, 1) := by decide +kernel
theorem dX12_lots_78 : decode cX12_lots 78 = .ok (.ldc2_w 259, 3) := by decide +kernel
theorem dX12_lots_81 : decode cX12_lots 81 = .ok (.lrem, 1) := by decide +kernel
theorem dX12_lots_82 : decode cX12_lots 82 = .ok (.lstore_n 3, 1) := by decide +kernel
theorem dX12_lots_83 : decode cX12_lots 83 = .ok (.lload_n 3, 1) := by decide +kernel
theorem dX12_lots_84 : decode cX12_lots 84 = .ok (.ldc2_w 261, 3) := by decide +kernel
theorem dX12_lots_87 : decode cX12_lots 87 = .ok (.ldiv, 1) := by decide +kernel
theorem dX12_lots_88 : decode cX12_lots 88 = .ok (.aload_n 0, 1) := by decide +kernel
theorem dX12_lots_89 : decode cX12_lots 89 = .ok (.getfield 142, 3) := by decide +kernel
theorem dX12_lots_92 : decode cX12_lots 92 = .ok (.i2l, 1) := by decide +kernel
theorem dX12_lots_93 : decode cX12_lots 93 = .ok (.lrem, 1) := by decide +kernel
theorem dX12_lots_94 : decode cX12_lots 94 = .ok (.l2i, 1) := by decide +kernel
theorem dX12_lots_95 : decode cX12_lots 95 = .ok (.istore 7, 2) := by decide +kernel
theorem dX12_lots_97 : decode cX12_lots 97 = .ok (.lload_n 3, 1) := by decide +kernel
theorem dX12_lots_98 : decode cX12_lots 98 = .ok (.ldc2_w 257, 3) := by decide +kernel
theorem dX12_lots_101 : decode cX12_lots 101 = .ok (.lmul, 1) := by decide +kernel
theorem dX12_lots_102 : decode cX12_lots 102 = .ok (.ldc2_w 259, 3) := by decide +kernel
theorem dX12_lots_105 : decode cX12_lots 105 = .ok (.lrem, 1) := by decide +kernel
theorem dX12_lots_106 : decode cX12_lots 106 = .ok (.lstore_n 3, 1) := by decide +kernel
theorem dX12_lots_107 : decode cX12_lots 107 = .ok (.aload_n 0, 1) := by decide +kernel
theorem dX12_lots_108 : decode cX12_lots 108 = .ok (.getfield 7, 3) := by decide +kernel
theorem dX12_lots_111 : decode cX12_lots 111 = .ok (.bipush 6, 2) := by decide +kernel
theorem dX12_lots_113 : decode cX12_lots 113 = .ok (.iload 6, 2) := by decide +kernel
theorem dX12_lots_115 : decode cX12_lots 115 = .ok (.iadd, 1) := by decide +kernel
theorem dX12_lots_116 : decode cX12_lots 116 = .ok (.iload 7, 2) := by decide +kernel
theorem dX12_lots_118 : decode cX12_lots 118 = .ok (.iastore, 1) := by decide +kernel
theorem dX12_lots_119 : decode cX12_lots 119 = .ok (.aload_n 0, 1) := by decide +kernel
theorem dX12_lots_120 : decode cX12_lots 120 = .ok (.getfield 7, 3) := by decide +kernel
theorem dX12_lots_123 : decode cX12_lots 123 = .ok (.bipush 22, 2) := by decide +kernel
theorem dX12_lots_125 : decode cX12_lots 125 = .ok (.iload 6, 2) := by decide +kernel
theorem dX12_lots_127 : decode cX12_lots 127 = .ok (.iadd, 1) := by decide +kernel
theorem dX12_lots_128 : decode cX12_lots 128 = .ok (.aload_n 0, 1) := by decide +kernel
theorem dX12_lots_129 : decode cX12_lots 129 = .ok (.iload 7, 2) := by decide +kernel
theorem dX12_lots_131 : decode cX12_lots 131 = .ok (.iload 5, 2) := by decide +kernel
theorem dX12_lots_133 : decode cX12_lots 133 = .ok (.lload_n 3, 1) := by decide +kernel
theorem dX12_lots_134 : decode cX12_lots 134 = .ok (.ldc2_w 263, 3) := by decide +kernel
theorem dX12_lots_137 : decode cX12_lots 137 = .ok (.ldiv, 1) := by decide +kernel
theorem dX12_lots_138 : decode cX12_lots 138 = .ok (.aload_n 0, 1) := by decide +kernel
theorem dX12_lots_139 : decode cX12_lots 139 = .ok (.iload 7, 2) := by decide +kernel
theorem dX12_lots_141 : decode cX12_lots 141 = .ok (.invokevirtual 177, 3) := by decide +kernel
theorem dX12_lots_144 : decode cX12_lots 144 = .ok (.i2l, 1) := by decide +kernel
theorem dX12_lots_145 : decode cX12_lots 145 = .ok (.lrem, 1) := by decide +kernel
theorem dX12_lots_146 : decode cX12_lots 146 = .ok (.l2i, 1) := by decide +kernel
theorem dX12_lots_147 : decode cX12_lots 147 = .ok (.invokevirtual 265, 3) := by decide +kernel
theorem dX12_lots_150 : decode cX12_lots 150 = .ok (.iastore, 1) := by decide +kernel
theorem dX12_lots_151 : decode cX12_lots 151 = .ok (.iinc 6 1, 3) := by decide +kernel
theorem dX12_lots_154 : decode cX12_lots 154 = .ok (.goto (-87), 3) := by decide +kernel
theorem dX12_lots_157 : decode cX12_lots 157 = .ok (.aload_n 0, 1) := by decide +kernel
theorem dX12_lots_158 : decode cX12_lots 158 = .ok (.invokevirtual 145, 3) := by decide +kernel
theorem dX12_lots_161 : decode cX12_lots 161 = .ok (.iload 5, 2) := by decide +kernel
theorem dX12_lots_163 : decode cX12_lots 163 = .ok (.ireturn, 1) := by decide +kernel
theorem dX12_asked_0 : decode cX12_asked 0 = .ok (.aload_n 0, 1) := by decide +kernel
theorem dX12_asked_1 : decode cX12_asked 1 = .ok (.getfield 52, 3) := by decide +kernel
theorem dX12_asked_4 : decode cX12_asked 4 = .ok (.ireturn, 1) := by decide +kernel
theorem dX12_upper_0 : decode cX12_upper 0 = .ok (.aload_n 0, 1) := by decide +kernel
theorem dX12_upper_1 : decode cX12_upper 1 = .ok (.getfield 216, 3) := by decide +kernel
theorem dX12_upper_4 : decode cX12_upper 4 = .ok (.lreturn, 1) := by decide +kernel
theorem dX12_lower_0 : decode cX12_lower 0 = .ok (.aload_n 0, 1) := by decide +kernel
theorem dX12_lower_1 : decode cX12_lower 1 = .ok (.getfield 32, 3) := by decide +kernel
theorem dX12_lower_4 : decode cX12_lower 4 = .ok (.lreturn, 1) := by decide +kernel
theorem dX12_anys_0 : decode cX12_anys 0 = .ok (.iconst 0, 1) := by decide +kernel
theorem dX12_anys_1 : decode cX12_anys 1 = .ok (.istore_n 1, 1) := by decide +kernel
theorem dX12_anys_2 : decode cX12_anys 2 = .ok (.iconst 0, 1) := by decide +kernel
theorem dX12_anys_3 : decode cX12_anys 3 = .ok (.istore_n 2, 1) := by decide +kernel
theorem dX12_anys_4 : decode cX12_anys 4 = .ok (.iload_n 2, 1) := by decide +kernel
theorem dX12_anys_5 : decode cX12_anys 5 = .ok (.aload_n 0, 1) := by decide +kernel
theorem dX12_anys_6 : decode cX12_anys 6 = .ok (.getfield 142, 3) := by decide +kernel
theorem dX12_anys_9 : decode cX12_anys 9 = .ok (.if_icmp .ge 26, 3) := by decide +kernel
theorem dX12_anys_12 : decode cX12_anys 12 = .ok (.iload_n 1, 1) := by decide +kernel
theorem dX12_anys_13 : decode cX12_anys 13 = .ok (.aload_n 0, 1) := by decide +kernel
theorem dX12_anys_14 : decode cX12_anys 14 = .ok (.iload_n 2, 1) := by decide +kernel
theorem dX12_anys_15 : decode cX12_anys 15 = .ok (.iconst 2, 1) := by decide +kernel
theorem dX12_anys_16 : decode cX12_anys 16 = .ok (.invokevirtual 189, 3) := by decide +kernel
theorem dX12_anys_19 : decode cX12_anys 19 = .ok (.ifCond .eq 7, 3) := by decide +kernel
theorem dX12_anys_22 : decode cX12_anys 22 = .ok (.iconst 1, 1) := by decide +kernel
theorem dX12_anys_23 : decode cX12_anys 23 = .ok (.goto 4, 3) := by decide +kernel
theorem dX12_anys_26 : decode cX12_anys 26 = .ok (.iconst 0, 1) := by decide +kernel
theorem dX12_anys_27 : decode cX12_anys 27 = .ok (.iadd, 1) := by decide +kernel
theorem dX12_anys_28 : decode cX12_anys 28 = .ok (.istore_n 1, 1) := by decide +kernel
theorem dX12_anys_29 : decode cX12_anys 29 = .ok (.iinc 2 1, 3) := by decide +kernel
theorem dX12_anys_32 : decode cX12_anys 32 = .ok (.goto (-28), 3) := by decide +kernel
theorem dX12_anys_35 : decode cX12_anys 35 = .ok (.iload_n 1, 1) := by decide +kernel
theorem dX12_anys_36 : decode cX12_anys 36 = .ok (.ireturn, 1) := by decide +kernel
theorem dX12_thereOf_0 : decode cX12_thereOf 0 = .ok (.iconst 0, 1) := by decide +kernel
theorem dX12_thereOf_1 : decode cX12_thereOf 1 = .ok (.istore_n 2, 1) := by decide +kernel
theorem dX12_thereOf_2 : decode cX12_thereOf 2 = .ok (.iconst 0, 1) := by decide +kernel
theorem dX12_thereOf_3 : decode cX12_thereOf 3 = .ok (.istore_n 3, 1) := by decide +kernel
theorem dX12_thereOf_4 : decode cX12_thereOf 4 = .ok (.iload_n 3, 1) := by decide +kernel
theorem dX12_thereOf_5 : decode cX12_thereOf 5 = .ok (.bipush 6, 2) := by decide +kernel
theorem dX12_thereOf_7 : decode cX12_thereOf 7 = .ok (.if_icmp .ge 89, 3) := by decide +kernel
theorem dX12_thereOf_10 : decode cX12_thereOf 10 = .ok (.iload_n 2, 1) := by decide +kernel
theorem dX12_thereOf_11 : decode cX12_thereOf 11 = .ok (.iload_n 1, 1) := by decide +kernel
theorem dX12_thereOf_12 : decode cX12_thereOf 12 = .ok (.bipush 7, 2) := by decide +kernel
theorem dX12_thereOf_14 : decode cX12_thereOf 14 = .ok (.if_icmp .ne 20, 3) := by decide +kernel
theorem dX12_thereOf_17 : decode cX12_thereOf 17 = .ok (.aload_n 0, 1) := by decide +kernel
theorem dX12_thereOf_18 : decode cX12_thereOf 18 = .ok (.getfield 20, 3) := by decide +kernel
theorem dX12_thereOf_21 : decode cX12_thereOf 21 = .ok (.iload_n 3, 1) := by decide +kernel
theorem dX12_thereOf_22 : decode cX12_thereOf 22 = .ok (.iaload, 1) := by decide +kernel
theorem dX12_thereOf_23 : decode cX12_thereOf 23 = .ok (.ifCond .ge 7, 3) := by decide +kernel
theorem dX12_thereOf_26 : decode cX12_thereOf 26 = .ok (.iconst 0, 1) := by decide +kernel
theorem dX12_thereOf_27 : decode cX12_thereOf 27 = .ok (.goto 61, 3) := by decide +kernel
theorem dX12_thereOf_30 : decode cX12_thereOf 30 = .ok (.iconst 1, 1) := by decide +kernel
theorem dX12_thereOf_31 : decode cX12_thereOf 31 = .ok (.goto 57, 3) := by decide +kernel
theorem dX12_thereOf_34 : decode cX12_thereOf 34 = .ok (.iload_n 1, 1) := by decide +kernel
theorem dX12_thereOf_35 : decode cX12_thereOf 35 = .ok (.bipush 8, 2) := by decide +kernel
theorem dX12_thereOf_37 : decode cX12_thereOf 37 = .ok (.if_icmp .ne 25, 3) := by decide +kernel
theorem dX12_thereOf_40 : decode cX12_thereOf 40 = .ok (.iload_n 3, 1) := by decide +kernel
theorem dX12_thereOf_41 : decode cX12_thereOf 41 = .ok (.iconst 4, 1) := by decide +kernel
theorem dX12_thereOf_42 : decode cX12_thereOf 42 = .ok (.if_icmp .ge 16, 3) := by decide +kernel
theorem dX12_thereOf_45 : decode cX12_thereOf 45 = .ok (.aload_n 0, 1) := by decide +kernel
theorem dX12_thereOf_46 : decode cX12_thereOf 46 = .ok (.getfield 26, 3) := by decide +kernel
theorem dX12_thereOf_49 : decode cX12_thereOf 49 = .ok (.iload_n 3, 1) := by decide +kernel
theorem dX12_thereOf_50 : decode cX12_thereOf 50 = .ok (.iaload, 1) := by decide +kernel
theorem dX12_thereOf_51 : decode cX12_thereOf 51 = .ok (.ifCond .lt 7, 3) := by decide +kernel
theorem dX12_thereOf_54 : decode cX12_thereOf 54 = .ok (.iconst 1, 1) := by decide +kernel
theorem dX12_thereOf_55 : decode cX12_thereOf 55 = .ok (.goto 33, 3) := by decide +kernel
theorem dX12_thereOf_58 : decode cX12_thereOf 58 = .ok (.iconst 0, 1) := by decide +kernel
theorem dX12_thereOf_59 : decode cX12_thereOf 59 = .ok (.goto 29, 3) := by decide +kernel
theorem dX12_thereOf_62 : decode cX12_thereOf 62 = .ok (.iload_n 3, 1) := by decide +kernel
theorem dX12_thereOf_63 : decode cX12_thereOf 63 = .ok (.iconst 3, 1) := by decide +kernel
theorem dX12_thereOf_64 : decode cX12_thereOf 64 = .ok (.if_icmp .ge 23, 3) := by decide +kernel
theorem dX12_thereOf_67 : decode cX12_thereOf 67 = .ok (.aload_n 0, 1) := by decide +kernel
theorem dX12_thereOf_68 : decode cX12_thereOf 68 = .ok (.getfield 7, 3) := by decide +kernel
theorem dX12_thereOf_71 : decode cX12_thereOf 71 = .ok (.bipush 38, 2) := by decide +kernel
theorem dX12_thereOf_73 : decode cX12_thereOf 73 = .ok (.iconst 1, 1) := by decide +kernel
theorem dX12_thereOf_74 : decode cX12_thereOf 74 = .ok (.iload_n 3, 1) := by decide +kernel
theorem dX12_thereOf_75 : decode cX12_thereOf 75 = .ok (.iadd, 1) := by decide +kernel
theorem dX12_thereOf_76 : decode cX12_thereOf 76 = .ok (.imul, 1) := by decide +kernel
theorem dX12_thereOf_77 : decode cX12_thereOf 77 = .ok (.iconst 0, 1) := by decide +kernel
theorem dX12_thereOf_78 : decode cX12_thereOf 78 = .ok (.iadd, 1) := by decide +kernel
theorem dX12_thereOf_79 : decode cX12_thereOf 79 = .ok (.iaload, 1) := by decide +kernel
theorem dX12_thereOf_80 : decode cX12_thereOf 80 = .ok (.ifCond .lt 7, 3) := by decide +kernel
theorem dX12_thereOf_83 : decode cX12_thereOf 83 = .ok (.iconst 1, 1) := by decide +kernel
theorem dX12_thereOf_84 : decode cX12_thereOf 84 = .ok (.goto 4, 3) := by decide +kernel
theorem dX12_thereOf_87 : decode cX12_thereOf 87 = .ok (.iconst 0, 1) := by decide +kernel
theorem dX12_thereOf_88 : decode cX12_thereOf 88 = .ok (.iadd, 1) := by decide +kernel
theorem dX12_thereOf_89 : decode cX12_thereOf 89 = .ok (.istore_n 2, 1) := by decide +kernel
theorem dX12_thereOf_90 : decode cX12_thereOf 90 = .ok (.iinc 3 1, 3) := by decide +kernel
theorem dX12_thereOf_93 : decode cX12_thereOf 93 = .ok (.goto (-89), 3) := by decide +kernel
theorem dX12_thereOf_96 : decode cX12_thereOf 96 = .ok (.iload_n 2, 1) := by decide +kernel
theorem dX12_thereOf_97 : decode cX12_thereOf 97 = .ok (.ireturn, 1) := by decide +kernel
theorem dX12_countOf_0 : decode cX12_countOf 0 = .ok (.iload_n 1, 1) := by decide +kernel
theorem dX12_countOf_1 : decode cX12_countOf 1 = .ok (.tableswitch 80 0 6 #[43, 48, 53, 58, 63, 68, 75], 43) := by decide +kernel
theorem dX12_countOf_44 : decode cX12_countOf 44 = .ok (.aload_n 0, 1) := by decide +kernel
theorem dX12_countOf_45 : decode cX12_countOf 45 = .ok (.getfield 142, 3) := by decide +kernel
theorem dX12_countOf_48 : decode cX12_countOf 48 = .ok (.ireturn, 1) := by decide +kernel
theorem dX12_countOf_49 : decode cX12_countOf 49 = .ok (.aload_n 0, 1) := by decide +kernel
theorem dX12_countOf_50 : decode cX12_countOf 50 = .ok (.getfield 130, 3) := by decide +kernel
theorem dX12_countOf_53 : decode cX12_countOf 53 = .ok (.ireturn, 1) := by decide +kernel
theorem dX12_countOf_54 : decode cX12_countOf 54 = .ok (.aload_n 0, 1) := by decide +kernel
theorem dX12_countOf_55 : decode cX12_countOf 55 = .ok (.getfield 133, 3) := by decide +kernel
theorem dX12_countOf_58 : decode cX12_countOf 58 = .ok (.ireturn, 1) := by decide +kernel
theorem dX12_countOf_59 : decode cX12_countOf 59 = .ok (.aload_n 0, 1) := by decide +kernel
theorem dX12_countOf_60 : decode cX12_countOf 60 = .ok (.getfield 139, 3) := by decide +kernel
theorem dX12_countOf_63 : decode cX12_countOf 63 = .ok (.ireturn, 1) := by decide +kernel
theorem dX12_countOf_64 : decode cX12_countOf 64 = .ok (.aload_n 0, 1) := by decide +kernel
theorem dX12_countOf_65 : decode cX12_countOf 65 = .ok (.invokevirtual 199, 3) := by decide +kernel
theorem dX12_countOf_68 : decode cX12_countOf 68 = .ok (.ireturn, 1) := by decide +kernel
theorem dX12_countOf_69 : decode cX12_countOf 69 = .ok (.aload_n 0, 1) := by decide +kernel
theorem dX12_countOf_70 : decode cX12_countOf 70 = .ok (.getfield 7, 3) := by decide +kernel
theorem dX12_countOf_73 : decode cX12_countOf 73 = .ok (.iconst 0, 1) := by decide +kernel
theorem dX12_countOf_74 : decode cX12_countOf 74 = .ok (.iaload, 1) := by decide +kernel
theorem dX12_countOf_75 : decode cX12_countOf 75 = .ok (.ireturn, 1) := by decide +kernel
theorem dX12_countOf_76 : decode cX12_countOf 76 = .ok (.aload_n 0, 1) := by decide +kernel
theorem dX12_countOf_77 : decode cX12_countOf 77 = .ok (.invokevirtual 268, 3) := by decide +kernel
theorem dX12_countOf_80 : decode cX12_countOf 80 = .ok (.ireturn, 1) := by decide +kernel
theorem dX12_countOf_81 : decode cX12_countOf 81 = .ok (.aload_n 0, 1) := by decide +kernel
theorem dX12_countOf_82 : decode cX12_countOf 82 = .ok (.iload_n 1, 1) := by decide +kernel
theorem dX12_countOf_83 : decode cX12_countOf 83 = .ok (.invokevirtual 271, 3) := by decide +kernel
theorem dX12_countOf_86 : decode cX12_countOf 86 = .ok (.ireturn, 1) := by decide +kernel
theorem dX12_count_0 : decode cX12_count 0 = .ok (.iload_n 1, 1) := by decide +kernel
theorem dX12_count_1 : decode cX12_count 1 = .ok (.i2l, 1) := by decide +kernel
theorem dX12_count_2 : decode cX12_count 2 = .ok (.lconst 0, 1) := by decide +kernel
theorem dX12_count_3 : decode cX12_count 3 = .ok (.ldc2_w 251, 3) := by decide +kernel
theorem dX12_count_6 : decode cX12_count 6 = .ok (.invokestatic 57, 3) := by decide +kernel
theorem dX12_count_9 : decode cX12_count 9 = .ok (.ifCond .eq 11, 3) := by decide +kernel
theorem dX12_count_12 : decode cX12_count 12 = .ok (.aload_n 0, 1) := by decide +kernel
theorem dX12_count_13 : decode cX12_count 13 = .ok (.iload_n 1, 1) := by decide +kernel
theorem dX12_count_14 : decode cX12_count 14 = .ok (.invokevirtual 274, 3) := by decide +kernel
theorem dX12_count_17 : decode cX12_count 17 = .ok (.goto 4, 3) := by decide +kernel
theorem dX12_count_20 : decode cX12_count 20 = .ok (.iconst (-1), 1) := by decide +kernel
theorem dX12_count_21 : decode cX12_count 21 = .ok (.ireturn, 1) := by decide +kernel
theorem dX12_finding_0 : decode cX12_finding 0 = .ok (.aload_n 0, 1) := by decide +kernel
theorem dX12_finding_1 : decode cX12_finding 1 = .ok (.getfield 48, 3) := by decide +kernel
theorem dX12_finding_4 : decode cX12_finding 4 = .ok (.ireturn, 1) := by decide +kernel
theorem dX12_findings_0 : decode cX12_findings 0 = .ok (.iload_n 1, 1) := by decide +kernel
theorem dX12_findings_1 : decode cX12_findings 1 = .ok (.i2l, 1) := by decide +kernel
theorem dX12_findings_2 : decode cX12_findings 2 = .ok (.lconst 1, 1) := by decide +kernel
theorem dX12_findings_3 : decode cX12_findings 3 = .ok (.ldc2_w 55, 3) := by decide +kernel
theorem dX12_findings_6 : decode cX12_findings 6 = .ok (.invokestatic 57, 3) := by decide +kernel
theorem dX12_findings_9 : decode cX12_findings 9 = .ok (.ifCond .eq 12, 3) := by decide +kernel
theorem dX12_findings_12 : decode cX12_findings 12 = .ok (.aload_n 0, 1) := by decide +kernel
theorem dX12_findings_13 : decode cX12_findings 13 = .ok (.getfield 36, 3) := by decide +kernel
theorem dX12_findings_16 : decode cX12_findings 16 = .ok (.iload_n 1, 1) := by decide +kernel
theorem dX12_findings_17 : decode cX12_findings 17 = .ok (.iaload, 1) := by decide +kernel
theorem dX12_findings_18 : decode cX12_findings 18 = .ok (.goto 4, 3) := by decide +kernel
theorem dX12_findings_21 : decode cX12_findings 21 = .ok (.iconst (-1), 1) := by decide +kernel
theorem dX12_findings_22 : decode cX12_findings 22 = .ok (.ireturn, 1) := by decide +kernel
theorem dX12_digest_0 : decode cX12_digest 0 = .ok (.ldc2_w 277, 3) := by decide +kernel
theorem dX12_digest_3 : decode cX12_digest 3 = .ok (.lstore_n 1, 1) := by decide +kernel
theorem dX12_digest_4 : decode cX12_digest 4 = .ok (.iconst 0, 1) := by decide +kernel
theorem dX12_digest_5 : decode cX12_digest 5 = .ok (.istore_n 3, 1) := by decide +kernel
theorem dX12_digest_6 : decode cX12_digest 6 = .ok (.iload_n 3, 1) := by decide +kernel
theorem dX12_digest_7 : decode cX12_digest 7 = .ok (.bipush 10, 2) := by decide +kernel
theorem dX12_digest_9 : decode cX12_digest 9 = .ok (.if_icmp .ge 22, 3) := by decide +kernel
theorem dX12_digest_12 : decode cX12_digest 12 = .ok (.ldc2_w 279, 3) := by decide +kernel
theorem dX12_digest_15 : decode cX12_digest 15 = .ok (.lload_n 1, 1) := by decide +kernel
theorem dX12_digest_16 : decode cX12_digest 16 = .ok (.lmul, 1) := by decide +kernel
theorem dX12_digest_17 : decode cX12_digest 17 = .ok (.aload_n 0, 1) := by decide +kernel
theorem dX12_digest_18 : decode cX12_digest 18 = .ok (.iload_n 3, 1) := by decide +kernel
theorem dX12_digest_19 : decode cX12_digest 19 = .ok (.invokevirtual 274, 3) := by decide +kernel
theorem dX12_digest_22 : decode cX12_digest 22 = .ok (.i2l, 1) := by decide +kernel
theorem dX12_digest_23 : decode cX12_digest 23 = .ok (.ladd, 1) := by decide +kernel
theorem dX12_digest_24 : decode cX12_digest 24 = .ok (.lstore_n 1, 1) := by decide +kernel
theorem dX12_digest_25 : decode cX12_digest 25 = .ok (.iinc 3 1, 3) := by decide +kernel
theorem dX12_digest_28 : decode cX12_digest 28 = .ok (.goto (-22), 3) := by decide +kernel
theorem dX12_digest_31 : decode cX12_digest 31 = .ok (.iconst 0, 1) := by decide +kernel
theorem dX12_digest_32 : decode cX12_digest 32 = .ok (.istore_n 3, 1) := by decide +kernel
theorem dX12_digest_33 : decode cX12_digest 33 = .ok (.iload_n 3, 1) := by decide +kernel
theorem dX12_digest_34 : decode cX12_digest 34 = .ok (.aload_n 0, 1) := by decide +kernel
theorem dX12_digest_35 : decode cX12_digest 35 = .ok (.getfield 139, 3) := by decide +kernel
theorem dX12_digest_38 : decode cX12_digest 38 = .ok (.if_icmp .ge 22, 3) := by decide +kernel
theorem dX12_digest_41 : decode cX12_digest 41 = .ok (.ldc2_w 279, 3) := by decide +kernel
theorem dX12_digest_44 : decode cX12_digest 44 = .ok (.lload_n 1, 1) := by decide +kernel
theorem dX12_digest_45 : decode cX12_digest 45 = .ok (.lmul, 1) := by decide +kernel
theorem dX12_digest_46 : decode cX12_digest 46 = .ok (.aload_n 0, 1) := by decide +kernel
theorem dX12_digest_47 : decode cX12_digest 47 = .ok (.getfield 16, 3) := by decide +kernel
theorem dX12_digest_50 : decode cX12_digest 50 = .ok (.iload_n 3, 1) := by decide +kernel
theorem dX12_digest_51 : decode cX12_digest 51 = .ok (.laload, 1) := by decide +kernel
theorem dX12_digest_52 : decode cX12_digest 52 = .ok (.ladd, 1) := by decide +kernel
theorem dX12_digest_53 : decode cX12_digest 53 = .ok (.lstore_n 1, 1) := by decide +kernel
theorem dX12_digest_54 : decode cX12_digest 54 = .ok (.iinc 3 1, 3) := by decide +kernel
theorem dX12_digest_57 : decode cX12_digest 57 = .ok (.goto (-24), 3) := by decide +kernel
theorem dX12_digest_60 : decode cX12_digest 60 = .ok (.iconst 0, 1) := by decide +kernel
theorem dX12_digest_61 : decode cX12_digest 61 = .ok (.istore_n 3, 1) := by decide +kernel
theorem dX12_digest_62 : decode cX12_digest 62 = .ok (.iload_n 3, 1) := by decide +kernel
theorem dX12_digest_63 : decode cX12_digest 63 = .ok (.iconst 4, 1) := by decide +kernel
theorem dX12_digest_64 : decode cX12_digest 64 = .ok (.aload_n 0, 1) := by decide +kernel
theorem dX12_digest_65 : decode cX12_digest 65 = .ok (.getfield 142, 3) := by decide +kernel
theorem dX12_digest_68 : decode cX12_digest 68 = .ok (.imul, 1) := by decide +kernel
theorem dX12_digest_69 : decode cX12_digest 69 = .ok (.if_icmp .ge 27, 3) := by decide +kernel
theorem dX12_digest_72 : decode cX12_digest 72 = .ok (.ldc2_w 279, 3) := by decide +kernel
theorem dX12_digest_75 : decode cX12_digest 75 = .ok (.lload_n 1, 1) := by decide +kernel
theorem dX12_digest_76 : decode cX12_digest 76 = .ok (.lmul, 1) := by decide +kernel
theorem dX12_digest_77 : decode cX12_digest 77 = .ok (.aload_n 0, 1) := by decide +kernel
theorem dX12_digest_78 : decode cX12_digest 78 = .ok (.iload_n 3, 1) := by decide +kernel
theorem dX12_digest_79 : decode cX12_digest 79 = .ok (.iconst 4, 1) := by decide +kernel
theorem dX12_digest_80 : decode cX12_digest 80 = .ok (.idiv, 1) := by decide +kernel
theorem dX12_digest_81 : decode cX12_digest 81 = .ok (.iload_n 3, 1) := by decide +kernel
theorem dX12_digest_82 : decode cX12_digest 82 = .ok (.iconst 4, 1) := by decide +kernel
theorem dX12_digest_83 : decode cX12_digest 83 = .ok (.irem, 1) := by decide +kernel
theorem dX12_digest_84 : decode cX12_digest 84 = .ok (.invokevirtual 186, 3) := by decide +kernel
theorem dX12_digest_87 : decode cX12_digest 87 = .ok (.i2l, 1) := by decide +kernel
theorem dX12_digest_88 : decode cX12_digest 88 = .ok (.ladd, 1) := by decide +kernel
theorem dX12_digest_89 : decode cX12_digest 89 = .ok (.lstore_n 1, 1) := by decide +kernel
theorem dX12_digest_90 : decode cX12_digest 90 = .ok (.iinc 3 1, 3) := by decide +kernel
theorem dX12_digest_93 : decode cX12_digest 93 = .ok (.goto (-31), 3) := by decide +kernel
theorem dX12_digest_96 : decode cX12_digest 96 = .ok (.iconst 1, 1) := by decide +kernel
theorem dX12_digest_97 : decode cX12_digest 97 = .ok (.istore_n 3, 1) := by decide +kernel
theorem dX12_digest_98 : decode cX12_digest 98 = .ok (.iload_n 3, 1) := by decide +kernel
theorem dX12_digest_99 : decode cX12_digest 99 = .ok (.iconst 4, 1) := by decide +kernel
theorem dX12_digest_100 : decode cX12_digest 100 = .ok (.if_icmp .ge 28, 3) := by decide +kernel
theorem dX12_digest_103 : decode cX12_digest 103 = .ok (.ldc2_w 279, 3) := by decide +kernel
theorem dX12_digest_106 : decode cX12_digest 106 = .ok (.lload_n 1, 1) := by decide +kernel
theorem dX12_digest_107 : decode cX12_digest 107 = .ok (.lmul, 1) := by decide +kernel
theorem dX12_digest_108 : decode cX12_digest 108 = .ok (.aload_n 0, 1) := by decide +kernel
theorem dX12_digest_109 : decode cX12_digest 109 = .ok (.getfield 7, 3) := by decide +kernel
theorem dX12_digest_112 : decode cX12_digest 112 = .ok (.bipush 38, 2) := by decide +kernel
theorem dX12_digest_114 : decode cX12_digest 114 = .ok (.iload_n 3, 1) := by decide +kernel
theorem dX12_digest_115 : decode cX12_digest 115 = .ok (.imul, 1) := by decide +kernel
theorem dX12_digest_116 : decode cX12_digest 116 = .ok (.iconst 0, 1) := by decide +kernel
theorem dX12_digest_117 : decode cX12_digest 117 = .ok (.iadd, 1) := by decide +kernel
theorem dX12_digest_118 : decode cX12_digest 118 = .ok (.iaload, 1) := by decide +kernel
theorem dX12_digest_119 : decode cX12_digest 119 = .ok (.i2l, 1) := by decide +kernel
theorem dX12_digest_120 : decode cX12_digest 120 = .ok (.ladd, 1) := by decide +kernel
theorem dX12_digest_121 : decode cX12_digest 121 = .ok (.lstore_n 1, 1) := by decide +kernel
theorem dX12_digest_122 : decode cX12_digest 122 = .ok (.iinc 3 1, 3) := by decide +kernel
theorem dX12_digest_125 : decode cX12_digest 125 = .ok (.goto (-27), 3) := by decide +kernel
theorem dX12_digest_128 : decode cX12_digest 128 = .ok (.iconst 0, 1) := by decide +kernel
theorem dX12_digest_129 : decode cX12_digest 129 = .ok (.istore_n 3, 1) := by decide +kernel
theorem dX12_digest_130 : decode cX12_digest 130 = .ok (.iload_n 3, 1) := by decide +kernel
theorem dX12_digest_131 : decode cX12_digest 131 = .ok (.bipush 6, 2) := by decide +kernel
theorem dX12_digest_133 : decode cX12_digest 133 = .ok (.if_icmp .ge 63, 3) := by decide +kernel
theorem dX12_digest_136 : decode cX12_digest 136 = .ok (.ldc2_w 279, 3) := by decide +kernel
theorem dX12_digest_139 : decode cX12_digest 139 = .ok (.lload_n 1, 1) := by decide +kernel
theorem dX12_digest_140 : decode cX12_digest 140 = .ok (.lmul, 1) := by decide +kernel
theorem dX12_digest_141 : decode cX12_digest 141 = .ok (.aload_n 0, 1) := by decide +kernel
theorem dX12_digest_142 : decode cX12_digest 142 = .ok (.getfield 20, 3) := by decide +kernel
theorem dX12_digest_145 : decode cX12_digest 145 = .ok (.iload_n 3, 1) := by decide +kernel
theorem dX12_digest_146 : decode cX12_digest 146 = .ok (.iaload, 1) := by decide +kernel
theorem dX12_digest_147 : decode cX12_digest 147 = .ok (.i2l, 1) := by decide +kernel
theorem dX12_digest_148 : decode cX12_digest 148 = .ok (.ladd, 1) := by decide +kernel
theorem dX12_digest_149 : decode cX12_digest 149 = .ok (.lstore_n 1, 1) := by decide +kernel
theorem dX12_digest_150 : decode cX12_digest 150 = .ok (.iconst 0, 1) := by decide +kernel
theorem dX12_digest_151 : decode cX12_digest 151 = .ok (.istore 4, 2) := by decide +kernel
theorem dX12_digest_153 : decode cX12_digest 153 = .ok (.iload 4, 2) := by decide +kernel
theorem dX12_digest_155 : decode cX12_digest 155 = .ok (.aload_n 0, 1) := by decide +kernel
theorem dX12_digest_156 : decode cX12_digest 156 = .ok (.getfield 20, 3) := by decide +kernel
theorem dX12_digest_159 : decode cX12_digest 159 = .ok (.iload_n 3, 1) := by decide +kernel
theorem dX12_digest_160 : decode cX12_digest 160 = .ok (.iaload, 1) := by decide +kernel
theorem dX12_digest_161 : decode cX12_digest 161 = .ok (.if_icmp .ge 29, 3) := by decide +kernel
theorem dX12_digest_164 : decode cX12_digest 164 = .ok (.ldc2_w 279, 3) := by decide +kernel
theorem dX12_digest_167 : decode cX12_digest 167 = .ok (.lload_n 1, 1) := by decide +kernel
theorem dX12_digest_168 : decode cX12_digest 168 = .ok (.lmul, 1) := by decide +kernel
theorem dX12_digest_169 : decode cX12_digest 169 = .ok (.aload_n 0, 1) := by decide +kernel
theorem dX12_digest_170 : decode cX12_digest 170 = .ok (.getfield 23, 3) := by decide +kernel
theorem dX12_digest_173 : decode cX12_digest 173 = .ok (.bipush 40, 2) := by decide +kernel
theorem dX12_digest_175 : decode cX12_digest 175 = .ok (.iload_n 3, 1) := by decide +kernel
theorem dX12_digest_176 : decode cX12_digest 176 = .ok (.imul, 1) := by decide +kernel
theorem dX12_digest_177 : decode cX12_digest 177 = .ok (.iload 4, 2) := by decide +kernel
theorem dX12_digest_179 : decode cX12_digest 179 = .ok (.iadd, 1) := by decide +kernel
theorem dX12_digest_180 : decode cX12_digest 180 = .ok (.iaload, 1) := by decide +kernel
theorem dX12_digest_181 : decode cX12_digest 181 = .ok (.i2l, 1) := by decide +kernel
theorem dX12_digest_182 : decode cX12_digest 182 = .ok (.ladd, 1) := by decide +kernel
theorem dX12_digest_183 : decode cX12_digest 183 = .ok (.lstore_n 1, 1) := by decide +kernel
theorem dX12_digest_184 : decode cX12_digest 184 = .ok (.iinc 4 1, 3) := by decide +kernel
theorem dX12_digest_187 : decode cX12_digest 187 = .ok (.goto (-34), 3) := by decide +kernel
theorem dX12_digest_190 : decode cX12_digest 190 = .ok (.iinc 3 1, 3) := by decide +kernel
theorem dX12_digest_193 : decode cX12_digest 193 = .ok (.goto (-63), 3) := by decide +kernel
theorem dX12_digest_196 : decode cX12_digest 196 = .ok (.iconst 0, 1) := by decide +kernel
theorem dX12_digest_197 : decode cX12_digest 197 = .ok (.istore_n 3, 1) := by decide +kernel
theorem dX12_digest_198 : decode cX12_digest 198 = .ok (.iload_n 3, 1) := by decide +kernel
theorem dX12_digest_199 : decode cX12_digest 199 = .ok (.iconst 4, 1) := by decide +kernel
theorem dX12_digest_200 : decode cX12_digest 200 = .ok (.if_icmp .ge 63, 3) := by decide +kernel
theorem dX12_digest_203 : decode cX12_digest 203 = .ok (.ldc2_w 279, 3) := by decide +kernel
theorem dX12_digest_206 : decode cX12_digest 206 = .ok (.lload_n 1, 1) := by decide +kernel
theorem dX12_digest_207 : decode cX12_digest 207 = .ok (.lmul, 1) := by decide +kernel
theorem dX12_digest_208 : decode cX12_digest 208 = .ok (.aload_n 0, 1) := by decide +kernel
theorem dX12_digest_209 : decode cX12_digest 209 = .ok (.getfield 26, 3) := by decide +kernel
theorem dX12_digest_212 : decode cX12_digest 212 = .ok (.iload_n 3, 1) := by decide +kernel
theorem dX12_digest_213 : decode cX12_digest 213 = .ok (.iaload, 1) := by decide +kernel
theorem dX12_digest_214 : decode cX12_digest 214 = .ok (.i2l, 1) := by decide +kernel
theorem dX12_digest_215 : decode cX12_digest 215 = .ok (.ladd, 1) := by decide +kernel
theorem dX12_digest_216 : decode cX12_digest 216 = .ok (.lstore_n 1, 1) := by decide +kernel
theorem dX12_digest_217 : decode cX12_digest 217 = .ok (.iconst 0, 1) := by decide +kernel
theorem dX12_digest_218 : decode cX12_digest 218 = .ok (.istore 4, 2) := by decide +kernel
theorem dX12_digest_220 : decode cX12_digest 220 = .ok (.iload 4, 2) := by decide +kernel
theorem dX12_digest_222 : decode cX12_digest 222 = .ok (.aload_n 0, 1) := by decide +kernel
theorem dX12_digest_223 : decode cX12_digest 223 = .ok (.getfield 26, 3) := by decide +kernel
theorem dX12_digest_226 : decode cX12_digest 226 = .ok (.iload_n 3, 1) := by decide +kernel
theorem dX12_digest_227 : decode cX12_digest 227 = .ok (.iaload, 1) := by decide +kernel
theorem dX12_digest_228 : decode cX12_digest 228 = .ok (.if_icmp .ge 29, 3) := by decide +kernel
theorem dX12_digest_231 : decode cX12_digest 231 = .ok (.ldc2_w 279, 3) := by decide +kernel
theorem dX12_digest_234 : decode cX12_digest 234 = .ok (.lload_n 1, 1) := by decide +kernel
theorem dX12_digest_235 : decode cX12_digest 235 = .ok (.lmul, 1) := by decide +kernel
theorem dX12_digest_236 : decode cX12_digest 236 = .ok (.aload_n 0, 1) := by decide +kernel
theorem dX12_digest_237 : decode cX12_digest 237 = .ok (.getfield 29, 3) := by decide +kernel
theorem dX12_digest_240 : decode cX12_digest 240 = .ok (.bipush 60, 2) := by decide +kernel
theorem dX12_digest_242 : decode cX12_digest 242 = .ok (.iload_n 3, 1) := by decide +kernel
theorem dX12_digest_243 : decode cX12_digest 243 = .ok (.imul, 1) := by decide +kernel
theorem dX12_digest_244 : decode cX12_digest 244 = .ok (.iload 4, 2) := by decide +kernel
theorem dX12_digest_246 : decode cX12_digest 246 = .ok (.iadd, 1) := by decide +kernel
theorem dX12_digest_247 : decode cX12_digest 247 = .ok (.iaload, 1) := by decide +kernel
theorem dX12_digest_248 : decode cX12_digest 248 = .ok (.i2l, 1) := by decide +kernel
theorem dX12_digest_249 : decode cX12_digest 249 = .ok (.ladd, 1) := by decide +kernel
theorem dX12_digest_250 : decode cX12_digest 250 = .ok (.lstore_n 1, 1) := by decide +kernel
theorem dX12_digest_251 : decode cX12_digest 251 = .ok (.iinc 4 1, 3) := by decide +kernel
theorem dX12_digest_254 : decode cX12_digest 254 = .ok (.goto (-34), 3) := by decide +kernel
theorem dX12_digest_257 : decode cX12_digest 257 = .ok (.iinc 3 1, 3) := by decide +kernel
theorem dX12_digest_260 : decode cX12_digest 260 = .ok (.goto (-62), 3) := by decide +kernel
theorem dX12_digest_263 : decode cX12_digest 263 = .ok (.lload_n 1, 1) := by decide +kernel
theorem dX12_digest_264 : decode cX12_digest 264 = .ok (.lreturn, 1) := by decide +kernel
