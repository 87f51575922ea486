theorem dX11_near_74 : decode cX11_near 74 = .ok (.iconst 1, 1) := by decide +kernel
theorem dX11_near_75 : decode cX11_near 75 = .ok (.goto 4, 3) := by decide +kernel
theorem dX11_near_78 : decode cX11_near 78 = .ok (.iconst 0, 1) := by decide +kernel
theorem dX11_near_79 : decode cX11_near 79 = .ok (.iadd, 1) := by decide +kernel
theorem dX11_near_80 : decode cX11_near 80 = .ok (.istore_n 3, 1) := by decide +kernel
theorem dX11_near_81 : decode cX11_near 81 = .ok (.iinc 4 1, 3) := by decide +kernel
theorem dX11_near_84 : decode cX11_near 84 = .ok (.goto (-53), 3) := by decide +kernel
theorem dX11_near_87 : decode cX11_near 87 = .ok (.iload_n 3, 1) := by decide +kernel
theorem dX11_near_88 : decode cX11_near 88 = .ok (.ireturn, 1) := by decide +kernel
theorem dX11_lots_0 : decode cX11_lots 0 = .ok (.iload_n 1, 1) := by decide +kernel
theorem dX11_lots_1 : decode cX11_lots 1 = .ok (.iconst 1, 1) := by decide +kernel
theorem dX11_lots_2 : decode cX11_lots 2 = .ok (.if_icmp .lt 21, 3) := by decide +kernel
theorem dX11_lots_5 : decode cX11_lots 5 = .ok (.iload_n 1, 1) := by decide +kernel
theorem dX11_lots_6 : decode cX11_lots 6 = .ok (.bipush 8, 2) := by decide +kernel
theorem dX11_lots_8 : decode cX11_lots 8 = .ok (.if_icmp .gt 15, 3) := by decide +kernel
theorem dX11_lots_11 : decode cX11_lots 11 = .ok (.iload_n 2, 1) := by decide +kernel
theorem dX11_lots_12 : decode cX11_lots 12 = .ok (.iconst 1, 1) := by decide +kernel
theorem dX11_lots_13 : decode cX11_lots 13 = .ok (.if_icmp .lt 10, 3) := by decide +kernel
theorem dX11_lots_16 : decode cX11_lots 16 = .ok (.iload_n 2, 1) := by decide +kernel
theorem dX11_lots_17 : decode cX11_lots 17 = .ok (.ldc_w 312, 3) := by decide +kernel
theorem dX11_lots_20 : decode cX11_lots 20 = .ok (.if_icmp .le 5, 3) := by decide +kernel
theorem dX11_lots_23 : decode cX11_lots 23 = .ok (.iconst (-1), 1) := by decide +kernel
theorem dX11_lots_24 : decode cX11_lots 24 = .ok (.ireturn, 1) := by decide +kernel
theorem dX11_lots_25 : decode cX11_lots 25 = .ok (.aload_n 0, 1) := by decide +kernel
theorem dX11_lots_26 : decode cX11_lots 26 = .ok (.getfield 34, 3) := by decide +kernel
theorem dX11_lots_29 : decode cX11_lots 29 = .ok (.getfield 115, 3) := by decide +kernel
theorem dX11_lots_32 : decode cX11_lots 32 = .ok (.ifCond .ne 6, 3) := by decide +kernel
theorem dX11_lots_35 : decode cX11_lots 35 = .ok (.bipush (-4), 2) := by decide +kernel
theorem dX11_lots_37 : decode cX11_lots 37 = .ok (.ireturn, 1) := by decide +kernel
theorem dX11_lots_38 : decode cX11_lots 38 = .ok (.aload_n 0, 1) := by decide +kernel
theorem dX11_lots_39 : decode cX11_lots 39 = .ok (.getfield 34, 3) := by decide +kernel
theorem dX11_lots_42 : decode cX11_lots 42 = .ok (.iload_n 1, 1) := by decide +kernel
theorem dX11_lots_43 : decode cX11_lots 43 = .ok (.iload_n 2, 1) := by decide +kernel
theorem dX11_lots_44 : decode cX11_lots 44 = .ok (.invokevirtual 313, 3) := by decide +kernel
theorem dX11_lots_47 : decode cX11_lots 47 = .ok (.ireturn, 1) := by decide +kernel
theorem dX11_asked_0 : decode cX11_asked 0 = .ok (.aload_n 0, 1) := by decide +kernel
theorem dX11_asked_1 : decode cX11_asked 1 = .ok (.getfield 46, 3) := by decide +kernel
theorem dX11_asked_4 : decode cX11_asked 4 = .ok (.ireturn, 1) := by decide +kernel
theorem dX11_upper_0 : decode cX11_upper 0 = .ok (.aload_n 0, 1) := by decide +kernel
theorem dX11_upper_1 : decode cX11_upper 1 = .ok (.getfield 49, 3) := by decide +kernel
theorem dX11_upper_4 : decode cX11_upper 4 = .ok (.lreturn, 1) := by decide +kernel
theorem dX11_lower_0 : decode cX11_lower 0 = .ok (.aload_n 0, 1) := by decide +kernel
theorem dX11_lower_1 : decode cX11_lower 1 = .ok (.getfield 53, 3) := by decide +kernel
theorem dX11_lower_4 : decode cX11_lower 4 = .ok (.lreturn, 1) := by decide +kernel
theorem dX11_count_0 : decode cX11_count 0 = .ok (.iload_n 1, 1) := by decide +kernel
theorem dX11_count_1 : decode cX11_count 1 = .ok (.tableswitch 144 0 9 #[55, 63, 74, 85, 96, 104, 115, 123, 131, 139], 55) := by decide +kernel
theorem dX11_count_56 : decode cX11_count 56 = .ok (.aload_n 0, 1) := by decide +kernel
theorem dX11_count_57 : decode cX11_count 57 = .ok (.getfield 34, 3) := by decide +kernel
theorem dX11_count_60 : decode cX11_count 60 = .ok (.getfield 115, 3) := by decide +kernel
theorem dX11_count_63 : decode cX11_count 63 = .ok (.ireturn, 1) := by decide +kernel
theorem dX11_count_64 : decode cX11_count 64 = .ok (.aload_n 0, 1) := by decide +kernel
theorem dX11_count_65 : decode cX11_count 65 = .ok (.getfield 34, 3) := by decide +kernel
theorem dX11_count_68 : decode cX11_count 68 = .ok (.getfield 165, 3) := by decide +kernel
theorem dX11_count_71 : decode cX11_count 71 = .ok (.getfield 228, 3) := by decide +kernel
theorem dX11_count_74 : decode cX11_count 74 = .ok (.ireturn, 1) := by decide +kernel
theorem dX11_count_75 : decode cX11_count 75 = .ok (.aload_n 0, 1) := by decide +kernel
theorem dX11_count_76 : decode cX11_count 76 = .ok (.getfield 34, 3) := by decide +kernel
theorem dX11_count_79 : decode cX11_count 79 = .ok (.getfield 165, 3) := by decide +kernel
theorem dX11_count_82 : decode cX11_count 82 = .ok (.getfield 221, 3) := by decide +kernel
theorem dX11_count_85 : decode cX11_count 85 = .ok (.ireturn, 1) := by decide +kernel
theorem dX11_count_86 : decode cX11_count 86 = .ok (.aload_n 0, 1) := by decide +kernel
theorem dX11_count_87 : decode cX11_count 87 = .ok (.getfield 34, 3) := by decide +kernel
theorem dX11_count_90 : decode cX11_count 90 = .ok (.getfield 165, 3) := by decide +kernel
theorem dX11_count_93 : decode cX11_count 93 = .ok (.getfield 309, 3) := by decide +kernel
theorem dX11_count_96 : decode cX11_count 96 = .ok (.ireturn, 1) := by decide +kernel
theorem dX11_count_97 : decode cX11_count 97 = .ok (.aload_n 0, 1) := by decide +kernel
theorem dX11_count_98 : decode cX11_count 98 = .ok (.getfield 34, 3) := by decide +kernel
theorem dX11_count_101 : decode cX11_count 101 = .ok (.invokevirtual 139, 3) := by decide +kernel
theorem dX11_count_104 : decode cX11_count 104 = .ok (.ireturn, 1) := by decide +kernel
theorem dX11_count_105 : decode cX11_count 105 = .ok (.aload_n 0, 1) := by decide +kernel
theorem dX11_count_106 : decode cX11_count 106 = .ok (.getfield 34, 3) := by decide +kernel
theorem dX11_count_109 : decode cX11_count 109 = .ok (.getfield 152, 3) := by decide +kernel
theorem dX11_count_112 : decode cX11_count 112 = .ok (.getfield 114, 3) := by decide +kernel
theorem dX11_count_115 : decode cX11_count 115 = .ok (.ireturn, 1) := by decide +kernel
theorem dX11_count_116 : decode cX11_count 116 = .ok (.aload_n 0, 1) := by decide +kernel
theorem dX11_count_117 : decode cX11_count 117 = .ok (.getfield 34, 3) := by decide +kernel
theorem dX11_count_120 : decode cX11_count 120 = .ok (.invokevirtual 316, 3) := by decide +kernel
theorem dX11_count_123 : decode cX11_count 123 = .ok (.ireturn, 1) := by decide +kernel
theorem dX11_count_124 : decode cX11_count 124 = .ok (.aload_n 0, 1) := by decide +kernel
theorem dX11_count_125 : decode cX11_count 125 = .ok (.getfield 11, 3) := by decide +kernel
theorem dX11_count_128 : decode cX11_count 128 = .ok (.invokestatic 319, 3) := by decide +kernel
theorem dX11_count_131 : decode cX11_count 131 = .ok (.ireturn, 1) := by decide +kernel
theorem dX11_count_132 : decode cX11_count 132 = .ok (.aload_n 0, 1) := by decide +kernel
theorem dX11_count_133 : decode cX11_count 133 = .ok (.getfield 15, 3) := by decide +kernel
theorem dX11_count_136 : decode cX11_count 136 = .ok (.invokestatic 319, 3) := by decide +kernel
theorem dX11_count_139 : decode cX11_count 139 = .ok (.ireturn, 1) := by decide +kernel
theorem dX11_count_140 : decode cX11_count 140 = .ok (.aload_n 0, 1) := by decide +kernel
theorem dX11_count_141 : decode cX11_count 141 = .ok (.invokevirtual 323, 3) := by decide +kernel
theorem dX11_count_144 : decode cX11_count 144 = .ok (.ireturn, 1) := by decide +kernel
theorem dX11_count_145 : decode cX11_count 145 = .ok (.iconst (-1), 1) := by decide +kernel
theorem dX11_count_146 : decode cX11_count 146 = .ok (.ireturn, 1) := by decide +kernel
theorem dX11_finding_0 : decode cX11_finding 0 = .ok (.aload_n 0, 1) := by decide +kernel
theorem dX11_finding_1 : decode cX11_finding 1 = .ok (.getfield 42, 3) := by decide +kernel
theorem dX11_finding_4 : decode cX11_finding 4 = .ok (.ireturn, 1) := by decide +kernel
theorem dX11_findings_0 : decode cX11_findings 0 = .ok (.iload_n 1, 1) := by decide +kernel
theorem dX11_findings_1 : decode cX11_findings 1 = .ok (.iconst 1, 1) := by decide +kernel
theorem dX11_findings_2 : decode cX11_findings 2 = .ok (.if_icmp .lt 8, 3) := by decide +kernel
theorem dX11_findings_5 : decode cX11_findings 5 = .ok (.iload_n 1, 1) := by decide +kernel
theorem dX11_findings_6 : decode cX11_findings 6 = .ok (.iconst 5, 1) := by decide +kernel
theorem dX11_findings_7 : decode cX11_findings 7 = .ok (.if_icmp .le 7, 3) := by decide +kernel
theorem dX11_findings_10 : decode cX11_findings 10 = .ok (.iconst (-1), 1) := by decide +kernel
theorem dX11_findings_11 : decode cX11_findings 11 = .ok (.goto 9, 3) := by decide +kernel
theorem dX11_findings_14 : decode cX11_findings 14 = .ok (.aload_n 0, 1) := by decide +kernel
theorem dX11_findings_15 : decode cX11_findings 15 = .ok (.getfield 38, 3) := by decide +kernel
theorem dX11_findings_18 : decode cX11_findings 18 = .ok (.iload_n 1, 1) := by decide +kernel
theorem dX11_findings_19 : decode cX11_findings 19 = .ok (.iaload, 1) := by decide +kernel
theorem dX11_findings_20 : decode cX11_findings 20 = .ok (.ireturn, 1) := by decide +kernel
theorem dX11_digest_0 : decode cX11_digest 0 = .ok (.ldc2_w 326, 3) := by decide +kernel
theorem dX11_digest_3 : decode cX11_digest 3 = .ok (.lstore_n 1, 1) := by decide +kernel
theorem dX11_digest_4 : decode cX11_digest 4 = .ok (.iconst 0, 1) := by decide +kernel
theorem dX11_digest_5 : decode cX11_digest 5 = .ok (.istore_n 3, 1) := by decide +kernel
theorem dX11_digest_6 : decode cX11_digest 6 = .ok (.iload_n 3, 1) := by decide +kernel
theorem dX11_digest_7 : decode cX11_digest 7 = .ok (.bipush 10, 2) := by decide +kernel
theorem dX11_digest_9 : decode cX11_digest 9 = .ok (.if_icmp .ge 22, 3) := by decide +kernel
theorem dX11_digest_12 : decode cX11_digest 12 = .ok (.ldc2_w 328, 3) := by decide +kernel
theorem dX11_digest_15 : decode cX11_digest 15 = .ok (.lload_n 1, 1) := by decide +kernel
theorem dX11_digest_16 : decode cX11_digest 16 = .ok (.lmul, 1) := by decide +kernel
theorem dX11_digest_17 : decode cX11_digest 17 = .ok (.aload_n 0, 1) := by decide +kernel
theorem dX11_digest_18 : decode cX11_digest 18 = .ok (.iload_n 3, 1) := by decide +kernel
theorem dX11_digest_19 : decode cX11_digest 19 = .ok (.invokevirtual 330, 3) := by decide +kernel
theorem dX11_digest_22 : decode cX11_digest 22 = .ok (.i2l, 1) := by decide +kernel
theorem dX11_digest_23 : decode cX11_digest 23 = .ok (.ladd, 1) := by decide +kernel
theorem dX11_digest_24 : decode cX11_digest 24 = .ok (.lstore_n 1, 1) := by decide +kernel
theorem dX11_digest_25 : decode cX11_digest 25 = .ok (.iinc 3 1, 3) := by decide +kernel
theorem dX11_digest_28 : decode cX11_digest 28 = .ok (.goto (-22), 3) := by decide +kernel
theorem dX11_digest_31 : decode cX11_digest 31 = .ok (.iconst 0, 1) := by decide +kernel
theorem dX11_digest_32 : decode cX11_digest 32 = .ok (.istore_n 3, 1) := by decide +kernel
theorem dX11_digest_33 : decode cX11_digest 33 = .ok (.iload_n 3, 1) := by decide +kernel
theorem dX11_digest_34 : decode cX11_digest 34 = .ok (.aload_n 0, 1) := by decide +kernel
theorem dX11_digest_35 : decode cX11_digest 35 = .ok (.getfield 34, 3) := by decide +kernel
theorem dX11_digest_38 : decode cX11_digest 38 = .ok (.getfield 165, 3) := by decide +kernel
theorem dX11_digest_41 : decode cX11_digest 41 = .ok (.getfield 309, 3) := by decide +kernel
theorem dX11_digest_44 : decode cX11_digest 44 = .ok (.if_icmp .ge 25, 3) := by decide +kernel
theorem dX11_digest_47 : decode cX11_digest 47 = .ok (.ldc2_w 328, 3) := by decide +kernel
theorem dX11_digest_50 : decode cX11_digest 50 = .ok (.lload_n 1, 1) := by decide +kernel
theorem dX11_digest_51 : decode cX11_digest 51 = .ok (.lmul, 1) := by decide +kernel
theorem dX11_digest_52 : decode cX11_digest 52 = .ok (.aload_n 0, 1) := by decide +kernel
theorem dX11_digest_53 : decode cX11_digest 53 = .ok (.getfield 34, 3) := by decide +kernel
theorem dX11_digest_56 : decode cX11_digest 56 = .ok (.getfield 198, 3) := by decide +kernel
theorem dX11_digest_59 : decode cX11_digest 59 = .ok (.iload_n 3, 1) := by decide +kernel
theorem dX11_digest_60 : decode cX11_digest 60 = .ok (.laload, 1) := by decide +kernel
theorem dX11_digest_61 : decode cX11_digest 61 = .ok (.ladd, 1) := by decide +kernel
theorem dX11_digest_62 : decode cX11_digest 62 = .ok (.lstore_n 1, 1) := by decide +kernel
theorem dX11_digest_63 : decode cX11_digest 63 = .ok (.iinc 3 1, 3) := by decide +kernel
theorem dX11_digest_66 : decode cX11_digest 66 = .ok (.goto (-33), 3) := by decide +kernel
theorem dX11_digest_69 : decode cX11_digest 69 = .ok (.aload_n 0, 1) := by decide +kernel
theorem dX11_digest_70 : decode cX11_digest 70 = .ok (.lload_n 1, 1) := by decide +kernel
theorem dX11_digest_71 : decode cX11_digest 71 = .ok (.invokevirtual 333, 3) := by decide +kernel
theorem dX11_digest_74 : decode cX11_digest 74 = .ok (.lstore_n 1, 1) := by decide +kernel
theorem dX11_digest_75 : decode cX11_digest 75 = .ok (.iconst 0, 1) := by decide +kernel
theorem dX11_digest_76 : decode cX11_digest 76 = .ok (.istore_n 3, 1) := by decide +kernel
theorem dX11_digest_77 : decode cX11_digest 77 = .ok (.iload_n 3, 1) := by decide +kernel
theorem dX11_digest_78 : decode cX11_digest 78 = .ok (.aload_n 0, 1) := by decide +kernel
theorem dX11_digest_79 : decode cX11_digest 79 = .ok (.getfield 20, 3) := by decide +kernel
theorem dX11_digest_82 : decode cX11_digest 82 = .ok (.arraylength, 1) := by decide +kernel
theorem dX11_digest_83 : decode cX11_digest 83 = .ok (.if_icmp .ge 26, 3) := by decide +kernel
theorem dX11_digest_86 : decode cX11_digest 86 = .ok (.ldc2_w 328, 3) := by decide +kernel
theorem dX11_digest_89 : decode cX11_digest 89 = .ok (.lload_n 1, 1) := by decide +kernel
theorem dX11_digest_90 : decode cX11_digest 90 = .ok (.lmul, 1) := by decide +kernel
theorem dX11_digest_91 : decode cX11_digest 91 = .ok (.aload_n 0, 1) := by decide +kernel
theorem dX11_digest_92 : decode cX11_digest 92 = .ok (.getfield 20, 3) := by decide +kernel
theorem dX11_digest_95 : decode cX11_digest 95 = .ok (.iload_n 3, 1) := by decide +kernel
theorem dX11_digest_96 : decode cX11_digest 96 = .ok (.aaload, 1) := by decide +kernel
theorem dX11_digest_97 : decode cX11_digest 97 = .ok (.getfield 114, 3) := by decide +kernel
theorem dX11_digest_100 : decode cX11_digest 100 = .ok (.i2l, 1) := by decide +kernel
theorem dX11_digest_101 : decode cX11_digest 101 = .ok (.ladd, 1) := by decide +kernel
theorem dX11_digest_102 : decode cX11_digest 102 = .ok (.lstore_n 1, 1) := by decide +kernel
theorem dX11_digest_103 : decode cX11_digest 103 = .ok (.iinc 3 1, 3) := by decide +kernel
theorem dX11_digest_106 : decode cX11_digest 106 = .ok (.goto (-29), 3) := by decide +kernel
theorem dX11_digest_109 : decode cX11_digest 109 = .ok (.lload_n 1, 1) := by decide +kernel
theorem dX11_digest_110 : decode cX11_digest 110 = .ok (.aload_n 0, 1) := by decide +kernel
theorem dX11_digest_111 : decode cX11_digest 111 = .ok (.getfield 11, 3) := by decide +kernel
theorem dX11_digest_114 : decode cX11_digest 114 = .ok (.invokestatic 337, 3) := by decide +kernel
theorem dX11_digest_117 : decode cX11_digest 117 = .ok (.lstore_n 1, 1) := by decide +kernel
theorem dX11_digest_118 : decode cX11_digest 118 = .ok (.lload_n 1, 1) := by decide +kernel
theorem dX11_digest_119 : decode cX11_digest 119 = .ok (.aload_n 0, 1) := by decide +kernel
theorem dX11_digest_120 : decode cX11_digest 120 = .ok (.getfield 15, 3) := by decide +kernel
theorem dX11_digest_123 : decode cX11_digest 123 = .ok (.invokestatic 337, 3) := by decide +kernel
theorem dX11_digest_126 : decode cX11_digest 126 = .ok (.lreturn, 1) := by decide +kernel
theorem dX11_among_0 : decode cX11_among 0 = .ok (.iload_n 1, 1) := by decide +kernel
theorem dX11_among_1 : decode cX11_among 1 = .ok (.ifCond .lt 9, 3) := by decide +kernel
theorem dX11_among_4 : decode cX11_among 4 = .ok (.iload_n 1, 1) := by decide +kernel
theorem dX11_among_5 : decode cX11_among 5 = .ok (.aload_n 0, 1) := by decide +kernel
theorem dX11_among_6 : decode cX11_among 6 = .ok (.arraylength, 1) := by decide +kernel
theorem dX11_among_7 : decode cX11_among 7 = .ok (.if_icmp .lt 7, 3) := by decide +kernel
theorem dX11_among_10 : decode cX11_among 10 = .ok (.aconst_null, 1) := by decide +kernel
theorem dX11_among_11 : decode cX11_among 11 = .ok (.goto 6, 3) := by decide +kernel
theorem dX11_among_14 : decode cX11_among 14 = .ok (.aload_n 0, 1) := by decide +kernel
theorem dX11_among_15 : decode cX11_among 15 = .ok (.iload_n 1, 1) := by decide +kernel
theorem dX11_among_16 : decode cX11_among 16 = .ok (.aaload, 1) := by decide +kernel
theorem dX11_among_17 : decode cX11_among 17 = .ok (.areturn, 1) := by decide +kernel
theorem dX11_makeAnew_0 : decode cX11_makeAnew 0 = .ok (.aload_n 1, 1) := by decide +kernel
theorem dX11_makeAnew_1 : decode cX11_makeAnew 1 = .ok (.ifnull 12, 3) := by decide +kernel
theorem dX11_makeAnew_4 : decode cX11_makeAnew 4 = .ok (.iload_n 2, 1) := by decide +kernel
theorem dX11_makeAnew_5 : decode cX11_makeAnew 5 = .ok (.aload_n 1, 1) := by decide +kernel
theorem dX11_makeAnew_6 : decode cX11_makeAnew 6 = .ok (.getfield 72, 3) := by decide +kernel
theorem dX11_makeAnew_9 : decode cX11_makeAnew 9 = .ok (.arraylength, 1) := by decide +kernel
theorem dX11_makeAnew_10 : decode cX11_makeAnew 10 = .ok (.if_icmp .le 5, 3) := by decide +kernel
theorem dX11_makeAnew_13 : decode cX11_makeAnew 13 = .ok (.iconst (-1), 1) := by decide +kernel
theorem dX11_makeAnew_14 : decode cX11_makeAnew 14 = .ok (.ireturn, 1) := by decide +kernel
theorem dX11_makeAnew_15 : decode cX11_makeAnew 15 = .ok (.iload_n 2, 1) := by decide +kernel
theorem dX11_makeAnew_16 : decode cX11_makeAnew 16 = .ok (.ifCond .ge 9, 3) := by decide +kernel
theorem dX11_makeAnew_19 : decode cX11_makeAnew 19 = .ok (.aload_n 0, 1) := by decide +kernel
theorem dX11_makeAnew_20 : decode cX11_makeAnew 20 = .ok (.iconst 5, 1) := by decide +kernel
theorem dX11_makeAnew_21 : decode cX11_makeAnew 21 = .ok (.invokevirtual 85, 3) := by decide +kernel
theorem dX11_makeAnew_24 : decode cX11_makeAnew 24 = .ok (.ireturn, 1) := by decide +kernel
theorem dX11_makeAnew_25 : decode cX11_makeAnew 25 = .ok (.aload_n 1, 1) := by decide +kernel
theorem dX11_makeAnew_26 : decode cX11_makeAnew 26 = .ok (.iload_n 2, 1) := by decide +kernel
theorem dX11_makeAnew_27 : decode cX11_makeAnew 27 = .ok (.iload_n 3, 1) := by decide +kernel
theorem dX11_makeAnew_28 : decode cX11_makeAnew 28 = .ok (.invokevirtual 240, 3) := by decide +kernel
theorem dX11_makeAnew_31 : decode cX11_makeAnew 31 = .ok (.iload_n 2, 1) := by decide +kernel
theorem dX11_makeAnew_32 : decode cX11_makeAnew 32 = .ok (.ireturn, 1) := by decide +kernel
theorem dX11_refusedRow_0 : decode cX11_refusedRow 0 = .ok (.aload_n 1, 1) := by decide +kernel
theorem dX11_refusedRow_1 : decode cX11_refusedRow 1 = .ok (.ifnonnull 5, 3) := by decide +kernel
theorem dX11_refusedRow_4 : decode cX11_refusedRow 4 = .ok (.iconst (-1), 1) := by decide +kernel
theorem dX11_refusedRow_5 : decode cX11_refusedRow 5 = .ok (.ireturn, 1) := by decide +kernel
theorem dX11_refusedRow_6 : decode cX11_refusedRow 6 = .ok (.aload_n 1, 1) := by decide +kernel
theorem dX11_refusedRow_7 : decode cX11_refusedRow 7 = .ok (.invokevirtual 89, 3) := by decide +kernel
theorem dX11_refusedRow_10 : decode cX11_refusedRow 10 = .ok (.ifCond .eq 11, 3) := by decide +kernel
theorem dX11_refusedRow_13 : decode cX11_refusedRow 13 = .ok (.aload_n 0, 1) := by decide +kernel
theorem dX11_refusedRow_14 : decode cX11_refusedRow 14 = .ok (.iconst 1, 1) := by decide +kernel
theorem dX11_refusedRow_15 : decode cX11_refusedRow 15 = .ok (.invokevirtual 85, 3) := by decide +kernel
theorem dX11_refusedRow_18 : decode cX11_refusedRow 18 = .ok (.goto 4, 3) := by decide +kernel
theorem dX11_refusedRow_21 : decode cX11_refusedRow 21 = .ok (.iconst 0, 1) := by decide +kernel
theorem dX11_refusedRow_22 : decode cX11_refusedRow 22 = .ok (.ireturn, 1) := by decide +kernel
theorem dX11_refusedPlace_0 : decode cX11_refusedPlace 0 = .ok (.aload_n 0, 1) := by decide +kernel
theorem dX11_refusedPlace_1 : decode cX11_refusedPlace 1 = .ok (.aload_n 1, 1) := by decide +kernel
theorem dX11_refusedPlace_2 : decode cX11_refusedPlace 2 = .ok (.invokevirtual 78, 3) := by decide +kernel
theorem dX11_refusedPlace_5 : decode cX11_refusedPlace 5 = .ok (.istore_n 3, 1) := by decide +kernel
theorem dX11_refusedPlace_6 : decode cX11_refusedPlace 6 = .ok (.iload_n 3, 1) := by decide +kernel
theorem dX11_refusedPlace_7 : decode cX11_refusedPlace 7 = .ok (.ifCond .eq 5, 3) := by decide +kernel
theorem dX11_refusedPlace_10 : decode cX11_refusedPlace 10 = .ok (.iload_n 3, 1) := by decide +kernel
theorem dX11_refusedPlace_11 : decode cX11_refusedPlace 11 = .ok (.ireturn, 1) := by decide +kernel
theorem dX11_refusedPlace_12 : decode cX11_refusedPlace 12 = .ok (.aload_n 1, 1) := by decide +kernel
theorem dX11_refusedPlace_13 : decode cX11_refusedPlace 13 = .ok (.iload_n 2, 1) := by decide +kernel
theorem dX11_refusedPlace_14 : decode cX11_refusedPlace 14 = .ok (.invokevirtual 341, 3) := by decide +kernel
theorem dX11_refusedPlace_17 : decode cX11_refusedPlace 17 = .ok (.ifCond .eq 7, 3) := by decide +kernel
theorem dX11_refusedPlace_20 : decode cX11_refusedPlace 20 = .ok (.iconst 0, 1) := by decide +kernel
theorem dX11_refusedPlace_21 : decode cX11_refusedPlace 21 = .ok (.goto 8, 3) := by decide +kernel
theorem dX11_refusedPlace_24 : decode cX11_refusedPlace 24 = .ok (.aload_n 0, 1) := by decide +kernel
theorem dX11_refusedPlace_25 : decode cX11_refusedPlace 25 = .ok (.iconst 2, 1) := by decide +kernel
theorem dX11_refusedPlace_26 : decode cX11_refusedPlace 26 = .ok (.invokevirtual 85, 3) := by decide +kernel
theorem dX11_refusedPlace_29 : decode cX11_refusedPlace 29 = .ok (.ireturn, 1) := by decide +kernel
theorem dX11_found_0 : decode cX11_found 0 = .ok (.aload_n 0, 1) := by decide +kernel
theorem dX11_found_1 : decode cX11_found 1 = .ok (.iload_n 1, 1) := by decide +kernel
theorem dX11_found_2 : decode cX11_found 2 = .ok (.putfield 42, 3) := by decide +kernel
theorem dX11_found_5 : decode cX11_found 5 = .ok (.aload_n 0, 1) := by decide +kernel
theorem dX11_found_6 : decode cX11_found 6 = .ok (.getfield 38, 3) := by decide +kernel
theorem dX11_found_9 : decode cX11_found 9 = .ok (.iload_n 1, 1) := by decide +kernel
theorem dX11_found_10 : decode cX11_found 10 = .ok (.dup2, 1) := by decide +kernel
theorem dX11_found_11 : decode cX11_found 11 = .ok (.iaload, 1) := by decide +kernel
theorem dX11_found_12 : decode cX11_found 12 = .ok (.iconst 1, 1) := by decide +kernel
theorem dX11_found_13 : decode cX11_found 13 = .ok (.iadd, 1) := by decide +kernel
theorem dX11_found_14 : decode cX11_found 14 = .ok (.iastore, 1) := by decide +kernel
theorem dX11_found_15 : decode cX11_found 15 = .ok (.bipush (-3), 2) := by decide +kernel
theorem dX11_found_17 : decode cX11_found 17 = .ok (.ireturn, 1) := by decide +kernel
theorem dX11_tellNumber_0 : decode cX11_tellNumber 0 = .ok (.aload_n 0, 1) := by decide +kernel
theorem dX11_tellNumber_1 : decode cX11_tellNumber 1 = .ok (.iload_n 1, 1) := by decide +kernel
theorem dX11_tellNumber_2 : decode cX11_tellNumber 2 = .ok (.putfield 46, 3) := by decide +kernel
theorem dX11_tellNumber_5 : decode cX11_tellNumber 5 = .ok (.return_, 1) := by decide +kernel
theorem dX11_tellChance_0 : decode cX11_tellChance 0 = .ok (.lload_n 1, 1) := by decide +kernel
theorem dX11_tellChance_1 : decode cX11_tellChance 1 = .ok (.lload_n 3, 1) := by decide +kernel
theorem dX11_tellChance_2 : decode cX11_tellChance 2 = .ok (.invokestatic 344, 3) := by decide +kernel
theorem dX11_tellChance_5 : decode cX11_tellChance 5 = .ok (.lstore 5, 2) := by decide +kernel
theorem dX11_tellChance_7 : decode cX11_tellChance 7 = .ok (.lload 5, 2) := by decide +kernel
theorem dX11_tellChance_9 : decode cX11_tellChance 9 = .ok (.lconst 0, 1) := by decide +kernel
theorem dX11_tellChance_10 : decode cX11_tellChance 10 = .ok (.lcmp, 1) := by decide +kernel
theorem dX11_tellChance_11 : decode cX11_tellChance 11 = .ok (.ifCond .eq 19, 3) := by decide +kernel
theorem dX11_tellChance_14 : decode cX11_tellChance 14 = .ok (.aload_n 0, 1) := by decide +kernel
theorem dX11_tellChance_15 : decode cX11_tellChance 15 = .ok (.lload_n 1, 1) := by decide +kernel
theorem dX11_tellChance_16 : decode cX11_tellChance 16 = .ok (.lload 5, 2) := by decide +kernel
theorem dX11_tellChance_18 : decode cX11_tellChance 18 = .ok (.ldiv, 1) := by decide +kernel
theorem dX11_tellChance_19 : decode cX11_tellChance 19 = .ok (.putfield 49, 3) := by decide +kernel
theorem dX11_tellChance_22 : decode cX11_tellChance 22 = .ok (.aload_n 0, 1) := by decide +kernel
theorem dX11_tellChance_23 : decode cX11_tellChance 23 = .ok (.lload_n 3, 1) := by decide +kernel
theorem dX11_tellChance_24 : decode cX11_tellChance 24 = .ok (.lload 5, 2) := by decide +kernel
theorem dX11_tellChance_26 : decode cX11_tellChance 26 = .ok (.ldiv, 1) := by decide +kernel
theorem dX11_tellChance_27 : decode cX11_tellChance 27 = .ok (.putfield 53, 3) := by decide +kernel
theorem dX11_tellChance_30 : decode cX11_tellChance 30 = .ok (.iconst 1, 1) := by decide +kernel
theorem dX11_tellChance_31 : decode cX11_tellChance 31 = .ok (.ireturn, 1) := by decide +kernel
theorem dX11_greatestShared_0 : decode cX11_greatestShared 0 = .ok (.iconst 0, 1) := by decide +kernel
theorem dX11_greatestShared_1 : decode cX11_greatestShared 1 = .ok (.istore 4, 2) := by decide +kernel
theorem dX11_greatestShared_3 : decode cX11_greatestShared 3 = .ok (.iload 4, 2) := by decide +kernel
theorem dX11_greatestShared_5 : decode cX11_greatestShared 5 = .ok (.bipush 100, 2) := by decide +kernel
theorem dX11_greatestShared_7 : decode cX11_greatestShared 7 = .ok (.if_icmp .ge 25, 3) := by decide +kernel
theorem dX11_greatestShared_10 : decode cX11_greatestShared 10 = .ok (.lload_n 2, 1) := by decide +kernel
theorem dX11_greatestShared_11 : decode cX11_greatestShared 11 = .ok (.lconst 0, 1) := by decide +kernel
theorem dX11_greatestShared_12 : decode cX11_greatestShared 12 = .ok (.lcmp, 1) := by decide +kernel
theorem dX11_greatestShared_13 : decode cX11_greatestShared 13 = .ok (.ifCond .eq 19, 3) := by decide +kernel
theorem dX11_greatestShared_16 : decode cX11_greatestShared 16 = .ok (.lload_n 0, 1) := by decide +kernel
theorem dX11_greatestShared_17 : decode cX11_greatestShared 17 = .ok (.lload_n 2, 1) := by decide +kernel
theorem dX11_greatestShared_18 : decode cX11_greatestShared 18 = .ok (.lrem, 1) := by decide +kernel
theorem dX11_greatestShared_19 : decode cX11_greatestShared 19 = .ok (.lstore 5, 2) := by decide +kernel
theorem dX11_greatestShared_21 : decode cX11_greatestShared 21 = .ok (.lload_n 2, 1) := by decide +kernel
theorem dX11_greatestShared_22 : decode cX11_greatestShared 22 = .ok (.lstore_n 0, 1) := by decide +kernel
theorem dX11_greatestShared_23 : decode cX11_greatestShared 23 = .ok (.lload 5, 2) := by decide +kernel
theorem dX11_greatestShared_25 : decode cX11_greatestShared 25 = .ok (.lstore_n 2, 1) := by decide +kernel
theorem dX11_greatestShared_26 : decode cX11_greatestShared 26 = .ok (.iinc 4 1, 3) := by decide +kernel
theorem dX11_greatestShared_29 : decode cX11_greatestShared 29 = .ok (.goto (-26), 3) := by decide +kernel
theorem dX11_greatestShared_32 : decode cX11_greatestShared 32 = .ok (.lload_n 0, 1) := by decide +kernel
theorem dX11_greatestShared_33 : decode cX11_greatestShared 33 = .ok (.lreturn, 1) := by decide +kernel
theorem dX11_factOf_0 : decode cX11_factOf 0 = .ok (.iload_n 3, 1) := by decide +kernel
theorem dX11_factOf_1 : decode cX11_factOf 1 = .ok (.tableswitch 42 0 2 #[27, 32, 37], 27) := by decide +kernel
theorem dX11_factOf_28 : decode cX11_factOf 28 = .ok (.aload_n 1, 1) := by decide +kernel
theorem dX11_factOf_29 : decode cX11_factOf 29 = .ok (.invokevirtual 348, 3) := by decide +kernel
theorem dX11_factOf_32 : decode cX11_factOf 32 = .ok (.ireturn, 1) := by decide +kernel
theorem dX11_factOf_33 : decode cX11_factOf 33 = .ok (.aload_n 1, 1) := by decide +kernel
theorem dX11_factOf_34 : decode cX11_factOf 34 = .ok (.getfield 156, 3) := by decide +kernel
theorem dX11_factOf_37 : decode cX11_factOf 37 = .ok (.ireturn, 1) := by decide +kernel
theorem dX11_factOf_38 : decode cX11_factOf 38 = .ok (.aload_n 1, 1) := by decide +kernel
theorem dX11_factOf_39 : decode cX11_factOf 39 = .ok (.getfield 257, 3) := by decide +kernel
theorem dX11_factOf_42 : decode cX11_factOf 42 = .ok (.ireturn, 1) := by decide +kernel
theorem dX11_factOf_43 : decode cX11_factOf 43 = .ok (.aload_n 0, 1) := by decide +kernel
theorem dX11_factOf_44 : decode cX11_factOf 44 = .ok (.getfield 34, 3) := by decide +kernel
theorem dX11_factOf_47 : decode cX11_factOf 47 = .ok (.getfield 152, 3) := by decide +kernel
theorem dX11_factOf_50 : decode cX11_factOf 50 = .ok (.iload_n 2, 1) := by decide +kernel
theorem dX11_factOf_51 : decode cX11_factOf 51 = .ok (.invokevirtual 351, 3) := by decide +kernel
theorem dX11_factOf_54 : decode cX11_factOf 54 = .ok (.ireturn, 1) := by decide +kernel
theorem dX11_refusedTold_0 : decode cX11_refusedTold 0 = .ok (.aload_n 0, 1) := by decide +kernel
theorem dX11_refusedTold_1 : decode cX11_refusedTold 1 = .ok (.getfield 11, 3) := by decide +kernel
theorem dX11_refusedTold_4 : decode cX11_refusedTold 4 = .ok (.iload_n 1, 1) := by decide +kernel
theorem dX11_refusedTold_5 : decode cX11_refusedTold 5 = .ok (.invokestatic 60, 3) := by decide +kernel
theorem dX11_refusedTold_8 : decode cX11_refusedTold 8 = .ok (.astore_n 2, 1) := by decide +kernel
theorem dX11_refusedTold_9 : decode cX11_refusedTold 9 = .ok (.aload_n 2, 1) := by decide +kernel
theorem dX11_refusedTold_10 : decode cX11_refusedTold 10 = .ok (.ifnonnull 5, 3) := by decide +kernel
theorem dX11_refusedTold_13 : decode cX11_refusedTold 13 = .ok (.iconst (-1), 1) := by decide +kernel
theorem dX11_refusedTold_14 : decode cX11_refusedTold 14 = .ok (.ireturn, 1) := by decide +kernel
theorem dX11_refusedTold_15 : decode cX11_refusedTold 15 = .ok (.aload_n 0, 1) := by decide +kernel
theorem dX11_refusedTold_16 : decode cX11_refusedTold 16 = .ok (.getfield 34, 3) := by decide +kernel
theorem dX11_refusedTold_19 : decode cX11_refusedTold 19 = .ok (.getfield 115, 3) := by decide +kernel
theorem dX11_refusedTold_22 : decode cX11_refusedTold 22 = .ok (.ifCond .ne 6, 3) := by decide +kernel
theorem dX11_refusedTold_25 : decode cX11_refusedTold 25 = .ok (.bipush (-4), 2) := by decide +kernel
theorem dX11_refusedTold_27 : decode cX11_refusedTold 27 = .ok (.ireturn, 1) := by decide +kernel
theorem dX11_refusedTold_28 : decode cX11_refusedTold 28 = .ok (.aload_n 2, 1) := by decide +kernel
theorem dX11_refusedTold_29 : decode cX11_refusedTold 29 = .ok (.invokevirtual 89, 3) := by decide +kernel
theorem dX11_refusedTold_32 : decode cX11_refusedTold 32 = .ok (.ifCond .eq 9, 3) := by decide +kernel
theorem dX11_refusedTold_35 : decode cX11_refusedTold 35 = .ok (.aload_n 0, 1) := by decide +kernel
theorem dX11_refusedTold_36 : decode cX11_refusedTold 36 = .ok (.iconst 1, 1) := by decide +kernel
theorem dX11_refusedTold_37 : decode cX11_refusedTold 37 = .ok (.invokevirtual 85, 3) := by decide +kernel
theorem dX11_refusedTold_40 : decode cX11_refusedTold 40 = .ok (.ireturn, 1) := by decide +kernel
theorem dX11_refusedTold_41 : decode cX11_refusedTold 41 = .ok (.aload_n 2, 1) := by decide +kernel
theorem dX11_refusedTold_42 : decode cX11_refusedTold 42 = .ok (.getfield 82, 3) := by decide +kernel
theorem dX11_refusedTold_45 : decode cX11_refusedTold 45 = .ok (.bipush 12, 2) := by decide +kernel
theorem dX11_refusedTold_47 : decode cX11_refusedTold 47 = .ok (.if_icmp .gt 12, 3) := by decide +kernel
theorem dX11_refusedTold_50 : decode cX11_refusedTold 50 = .ok (.aload_n 2, 1) := by decide +kernel
theorem dX11_refusedTold_51 : decode cX11_refusedTold 51 = .ok (.getfield 82, 3) := by decide +kernel
theorem dX11_refusedTold_54 : decode cX11_refusedTold 54 = .ok (.iconst 2, 1) := by decide +kernel
theorem dX11_refusedTold_55 : decode cX11_refusedTold 55 = .ok (.irem, 1) := by decide +kernel
theorem dX11_refusedTold_56 : decode cX11_refusedTold 56 = .ok (.ifCond .eq 9, 3) := by decide +kernel
theorem dX11_refusedTold_59 : decode cX11_refusedTold 59 = .ok (.aload_n 0, 1) := by decide +kernel
theorem dX11_refusedTold_60 : decode cX11_refusedTold 60 = .ok (.iconst 5, 1) := by decide +kernel
theorem dX11_refusedTold_61 : decode cX11_refusedTold 61 = .ok (.invokevirtual 85, 3) := by decide +kernel
theorem dX11_refusedTold_64 : decode cX11_refusedTold 64 = .ok (.ireturn, 1) := by decide +kernel
theorem dX11_refusedTold_65 : decode cX11_refusedTold 65 = .ok (.iconst 0, 1) := by decide +kernel
theorem dX11_refusedTold_66 : decode cX11_refusedTold 66 = .ok (.istore_n 3, 1) := by decide +kernel
theorem dX11_refusedTold_67 : decode cX11_refusedTold 67 = .ok (.iload_n 3, 1) := by decide +kernel
theorem dX11_refusedTold_68 : decode cX11_refusedTold 68 = .ok (.iconst 1, 1) := by decide +kernel
theorem dX11_refusedTold_69 : decode cX11_refusedTold 69 = .ok (.iadd, 1) := by decide +kernel
theorem dX11_refusedTold_70 : decode cX11_refusedTold 70 = .ok (.aload_n 2, 1) := by decide +kernel
theorem dX11_refusedTold_71 : decode cX11_refusedTold 71 = .ok (.getfield 82, 3) := by decide +kernel
theorem dX11_refusedTold_74 : decode cX11_refusedTold 74 = .ok (.if_icmp .ge 52, 3) := by decide +kernel
theorem dX11_refusedTold_77 : decode cX11_refusedTold 77 = .ok (.aload_n 0, 1) := by decide +kernel
theorem dX11_refusedTold_78 : decode cX11_refusedTold 78 = .ok (.getfield 34, 3) := by decide +kernel
theorem dX11_refusedTold_81 : decode cX11_refusedTold 81 = .ok (.aload_n 2, 1) := by decide +kernel
theorem dX11_refusedTold_82 : decode cX11_refusedTold 82 = .ok (.getfield 72, 3) := by decide +kernel
theorem dX11_refusedTold_85 : decode cX11_refusedTold 85 = .ok (.iload_n 3, 1) := by decide +kernel
theorem dX11_refusedTold_86 : decode cX11_refusedTold 86 = .ok (.iaload, 1) := by decide +kernel
theorem dX11_refusedTold_87 : decode cX11_refusedTold 87 = .ok (.invokevirtual 118, 3) := by decide +kernel
theorem dX11_refusedTold_90 : decode cX11_refusedTold 90 = .ok (.ifnull 24, 3) := by decide +kernel
theorem dX11_refusedTold_93 : decode cX11_refusedTold 93 = .ok (.aload_n 0, 1) := by decide +kernel
theorem dX11_refusedTold_94 : decode cX11_refusedTold 94 = .ok (.getfield 34, 3) := by decide +kernel
theorem dX11_refusedTold_97 : decode cX11_refusedTold 97 = .ok (.getfield 165, 3) := by decide +kernel
theorem dX11_refusedTold_100 : decode cX11_refusedTold 100 = .ok (.aload_n 2, 1) := by decide +kernel
theorem dX11_refusedTold_101 : decode cX11_refusedTold 101 = .ok (.getfield 72, 3) := by decide +kernel
theorem dX11_refusedTold_104 : decode cX11_refusedTold 104 = .ok (.iload_n 3, 1) := by decide +kernel
theorem dX11_refusedTold_105 : decode cX11_refusedTold 105 = .ok (.iconst 1, 1) := by decide +kernel
theorem dX11_refusedTold_106 : decode cX11_refusedTold 106 = .ok (.iadd, 1) := by decide +kernel
theorem dX11_refusedTold_107 : decode cX11_refusedTold 107 = .ok (.iaload, 1) := by decide +kernel
theorem dX11_refusedTold_108 : decode cX11_refusedTold 108 = .ok (.invokevirtual 169, 3) := by decide +kernel
theorem dX11_refusedTold_111 : decode cX11_refusedTold 111 = .ok (.ifCond .ne 9, 3) := by decide +kernel
theorem dX11_refusedTold_114 : decode cX11_refusedTold 114 = .ok (.aload_n 0, 1) := by decide +kernel
theorem dX11_refusedTold_115 : decode cX11_refusedTold 115 = .ok (.iconst 3, 1) := by decide +kernel
theorem dX11_refusedTold_116 : decode cX11_refusedTold 116 = .ok (.invokevirtual 85, 3) := by decide +kernel
theorem dX11_refusedTold_119 : decode cX11_refusedTold 119 = .ok (.ireturn, 1) := by decide +kernel
theorem dX11_refusedTold_120 : decode cX11_refusedTold 120 = .ok (.iinc 3 2, 3) := by decide +kernel
theorem dX11_refusedTold_123 : decode cX11_refusedTold 123 = .ok (.goto (-56), 3) := by decide +kernel
theorem dX11_refusedTold_126 : decode cX11_refusedTold 126 = .ok (.iconst 0, 1) := by decide +kernel
theorem dX11_refusedTold_127 : decode cX11_refusedTold 127 = .ok (.ireturn, 1) := by decide +kernel
theorem dX11_howManyThere_0 : decode cX11_howManyThere 0 = .ok (.iconst 0, 1) := by decide +kernel
theorem dX11_howManyThere_1 : decode cX11_howManyThere 1 = .ok (.istore_n 1, 1) := by decide +kernel
theorem dX11_howManyThere_2 : decode cX11_howManyThere 2 = .ok (.iconst 0, 1) := by decide +kernel
theorem dX11_howManyThere_3 : decode cX11_howManyThere 3 = .ok (.istore_n 2, 1) := by decide +kernel
theorem dX11_howManyThere_4 : decode cX11_howManyThere 4 = .ok (.iload_n 2, 1) := by decide +kernel
theorem dX11_howManyThere_5 : decode cX11_howManyThere 5 = .ok (.aload_n 0, 1) := by decide +kernel
theorem dX11_howManyThere_6 : decode cX11_howManyThere 6 = .ok (.arraylength, 1) := by decide +kernel
theorem dX11_howManyThere_7 : decode cX11_howManyThere 7 = .ok (.if_icmp .ge 26, 3) := by decide +kernel
theorem dX11_howManyThere_10 : decode cX11_howManyThere 10 = .ok (.iload_n 1, 1) := by decide +kernel
theorem dX11_howManyThere_11 : decode cX11_howManyThere 11 = .ok (.aload_n 0, 1) := by decide +kernel
theorem dX11_howManyThere_12 : decode cX11_howManyThere 12 = .ok (.iload_n 2, 1) := by decide +kernel
theorem dX11_howManyThere_13 : decode cX11_howManyThere 13 = .ok (.aaload, 1) := by decide +kernel
theorem dX11_howManyThere_14 : decode cX11_howManyThere 14 = .ok (.invokevirtual 89, 3) := by decide +kernel
theorem dX11_howManyThere_17 : decode cX11_howManyThere 17 = .ok (.ifCond .eq 7, 3) := by decide +kernel
theorem dX11_howManyThere_20 : decode cX11_howManyThere 20 = .ok (.iconst 0, 1) := by decide +kernel
theorem dX11_howManyThere_21 : decode cX11_howManyThere 21 = .ok (.goto 4, 3) := by decide +kernel
theorem dX11_howManyThere_24 : decode cX11_howManyThere 24 = .ok (.iconst 1, 1) := by decide +kernel
theorem dX11_howManyThere_25 : decode cX11_howManyThere 25 = .ok (.iadd, 1) := by decide +kernel
theorem dX11_howManyThere_26 : decode cX11_howManyThere 26 = .ok (.istore_n 1, 1) := by decide +kernel
theorem dX11_howManyThere_27 : decode cX11_howManyThere 27 = .ok (.iinc 2 1, 3) := by decide +kernel
theorem dX11_howManyThere_30 : decode cX11_howManyThere 30 = .ok (.goto (-26), 3) := by decide +kernel
theorem dX11_howManyThere_33 : decode cX11_howManyThere 33 = .ok (.iload_n 1, 1) := by decide +kernel
theorem dX11_howManyThere_34 : decode cX11_howManyThere 34 = .ok (.ireturn, 1) := by decide +kernel
theorem dX11_howManyKept_0 : decode cX11_howManyKept 0 = .ok (.iconst 0, 1) := by decide +kernel
theorem dX11_howManyKept_1 : decode cX11_howManyKept 1 = .ok (.istore_n 1, 1) := by decide +kernel
theorem dX11_howManyKept_2 : decode cX11_howManyKept 2 = .ok (.iconst 0, 1) := by decide +kernel
theorem dX11_howManyKept_3 : decode cX11_howManyKept 3 = .ok (.istore_n 2, 1) := by decide +kernel
theorem dX11_howManyKept_4 : decode cX11_howManyKept 4 = .ok (.iload_n 2, 1) := by decide +kernel
theorem dX11_howManyKept_5 : decode cX11_howManyKept 5 = .ok (.aload_n 0, 1) := by decide +kernel
theorem dX11_howManyKept_6 : decode cX11_howManyKept 6 = .ok (.getfield 20, 3) := by decide +kernel
theorem dX11_howManyKept_9 : decode cX11_howManyKept 9 = .ok (.arraylength, 1) := by decide +kernel
theorem dX11_howManyKept_10 : decode cX11_howManyKept 10 = .ok (.if_icmp .ge 29, 3) := by decide +kernel
theorem dX11_howManyKept_13 : decode cX11_howManyKept 13 = .ok (.iload_n 1, 1) := by decide +kernel
theorem dX11_howManyKept_14 : decode cX11_howManyKept 14 = .ok (.aload_n 0, 1) := by decide +kernel
theorem dX11_howManyKept_15 : decode cX11_howManyKept 15 = .ok (.getfield 20, 3) := by decide +kernel
theorem dX11_howManyKept_18 : decode cX11_howManyKept 18 = .ok (.iload_n 2, 1) := by decide +kernel
theorem dX11_howManyKept_19 : decode cX11_howManyKept 19 = .ok (.aaload, 1) := by decide +kernel
theorem dX11_howManyKept_20 : decode cX11_howManyKept 20 = .ok (.getfield 114, 3) := by decide +kernel
theorem dX11_howManyKept_23 : decode cX11_howManyKept 23 = .ok (.ifCond .ge 7, 3) := by decide +kernel
theorem dX11_howManyKept_26 : decode cX11_howManyKept 26 = .ok (.iconst 0, 1) := by decide +kernel
theorem dX11_howManyKept_27 : decode cX11_howManyKept 27 = .ok (.goto 4, 3) := by decide +kernel
theorem dX11_howManyKept_30 : decode cX11_howManyKept 30 = .ok (.iconst 1, 1) := by decide +kernel
theorem dX11_howManyKept_31 : decode cX11_howManyKept 31 = .ok (.iadd, 1) := by decide +kernel
theorem dX11_howManyKept_32 : decode cX11_howManyKept 32 = .ok (.istore_n 1, 1) := by decide +kernel
theorem dX11_howManyKept_33 : decode cX11_howManyKept 33 = .ok (.iinc 2 1, 3) := by decide +kernel
theorem dX11_howManyKept_36 : decode cX11_howManyKept 36 = .ok (.goto (-32), 3) := by decide +kernel
theorem dX11_howManyKept_39 : decode cX11_howManyKept 39 = .ok (.iload_n 1, 1) := by decide +kernel
theorem dX11_howManyKept_40 : decode cX11_howManyKept 40 = .ok (.ireturn, 1) := by decide +kernel
theorem dX11_digestPersons_0 : decode cX11_digestPersons 0 = .ok (.iconst 0, 1) := by decide +kernel
theorem dX11_digestPersons_1 : decode cX11_digestPersons 1 = .ok (.istore_n 3, 1) := by decide +kernel
theorem dX11_digestPersons_2 : decode cX11_digestPersons 2 = .ok (.iload_n 3, 1) := by decide +kernel
theorem dX11_digestPersons_3 : decode cX11_digestPersons 3 = .ok (.aload_n 0, 1) := by decide +kernel
theorem dX11_digestPersons_4 : decode cX11_digestPersons 4 = .ok (.getfield 34, 3) := by decide +kernel
theorem dX11_digestPersons_7 : decode cX11_digestPersons 7 = .ok (.getfield 115, 3) := by decide +kernel
theorem dX11_digestPersons_10 : decode cX11_digestPersons 10 = .ok (.if_icmp .ge 56, 3) := by decide +kernel
theorem dX11_digestPersons_13 : decode cX11_digestPersons 13 = .ok (.aload_n 0, 1) := by decide +kernel
theorem dX11_digestPersons_14 : decode cX11_digestPersons 14 = .ok (.getfield 34, 3) := by decide +kernel
theorem dX11_digestPersons_17 : decode cX11_digestPersons 17 = .ok (.iload_n 3, 1) := by decide +kernel
theorem dX11_digestPersons_18 : decode cX11_digestPersons 18 = .ok (.invokevirtual 118, 3) := by decide +kernel
theorem dX11_digestPersons_21 : decode cX11_digestPersons 21 = .ok (.astore 4, 2) := by decide +kernel
theorem dX11_digestPersons_23 : decode cX11_digestPersons 23 = .ok (.iconst 0, 1) := by decide +kernel
theorem dX11_digestPersons_24 : decode cX11_digestPersons 24 = .ok (.istore 5, 2) := by decide +kernel
theorem dX11_digestPersons_26 : decode cX11_digestPersons 26 = .ok (.iload 5, 2) := by decide +kernel
theorem dX11_digestPersons_28 : decode cX11_digestPersons 28 = .ok (.iconst 3, 1) := by decide +kernel
theorem dX11_digestPersons_29 : decode cX11_digestPersons 29 = .ok (.if_icmp .gt 31, 3) := by decide +kernel
theorem dX11_digestPersons_32 : decode cX11_digestPersons 32 = .ok (.aload 4, 2) := by decide +kernel
theorem dX11_digestPersons_34 : decode cX11_digestPersons 34 = .ok (.ifnull 26, 3) := by decide +kernel
theorem dX11_digestPersons_37 : decode cX11_digestPersons 37 = .ok (.ldc2_w 328, 3) := by decide +kernel
theorem dX11_digestPersons_40 : decode cX11_digestPersons 40 = .ok (.lload_n 1, 1) := by decide +kernel
theorem dX11_digestPersons_41 : decode cX11_digestPersons 41 = .ok (.lmul, 1) := by decide +kernel
theorem dX11_digestPersons_42 : decode cX11_digestPersons 42 = .ok (.aload_n 0, 1) := by decide +kernel
theorem dX11_digestPersons_43 : decode cX11_digestPersons 43 = .ok (.aload 4, 2) := by decide +kernel
theorem dX11_digestPersons_45 : decode cX11_digestPersons 45 = .ok (.iload_n 3, 1) := by decide +kernel
theorem dX11_digestPersons_46 : decode cX11_digestPersons 46 = .ok (.iload 5, 2) := by decide +kernel
theorem dX11_digestPersons_48 : decode cX11_digestPersons 48 = .ok (.invokevirtual 122, 3) := by decide +kernel
theorem dX11_digestPersons_51 : decode cX11_digestPersons 51 = .ok (.i2l, 1) := by decide +kernel
theorem dX11_digestPersons_52 : decode cX11_digestPersons 52 = .ok (.ladd, 1) := by decide +kernel
theorem dX11_digestPersons_53 : decode cX11_digestPersons 53 = .ok (.lstore_n 1, 1) := by decide +kernel
theorem dX11_digestPersons_54 : decode cX11_digestPersons 54 = .ok (.iinc 5 1, 3) := by decide +kernel
theorem dX11_digestPersons_57 : decode cX11_digestPersons 57 = .ok (.goto (-31), 3) := by decide +kernel
theorem dX11_digestPersons_60 : decode cX11_digestPersons 60 = .ok (.iinc 3 1, 3) := by decide +kernel
theorem dX11_digestPersons_63 : decode cX11_digestPersons 63 = .ok (.goto (-61), 3) := by decide +kernel
theorem dX11_digestPersons_66 : decode cX11_digestPersons 66 = .ok (.lload_n 1, 1) := by decide +kernel
theorem dX11_digestPersons_67 : decode cX11_digestPersons 67 = .ok (.lreturn, 1) := by decide +kernel
theorem dX11_digestRows_0 : decode cX11_digestRows 0 = .ok (.iconst 0, 1) := by decide +kernel
theorem dX11_digestRows_1 : decode cX11_digestRows 1 = .ok (.istore_n 3, 1) := by decide +kernel
theorem dX11_digestRows_2 : decode cX11_digestRows 2 = .ok (.iload_n 3, 1) := by decide +kernel
theorem dX11_digestRows_3 : decode cX11_digestRows 3 = .ok (.aload_n 2, 1) := by decide +kernel
theorem dX11_digestRows_4 : decode cX11_digestRows 4 = .ok (.arraylength, 1) := by decide +kernel
theorem dX11_digestRows_5 : decode cX11_digestRows 5 = .ok (.if_icmp .ge 60, 3) := by decide +kernel
theorem dX11_digestRows_8 : decode cX11_digestRows 8 = .ok (.ldc2_w 328, 3) := by decide +kernel
theorem dX11_digestRows_11 : decode cX11_digestRows 11 = .ok (.lload_n 0, 1) := by decide +kernel
theorem dX11_digestRows_12 : decode cX11_digestRows 12 = .ok (.lmul, 1) := by decide +kernel
theorem dX11_digestRows_13 : decode cX11_digestRows 13 = .ok (.aload_n 2, 1) := by decide +kernel
theorem dX11_digestRows_14 : decode cX11_digestRows 14 = .ok (.iload_n 3, 1) := by decide +kernel
theorem dX11_digestRows_15 : decode cX11_digestRows 15 = .ok (.aaload, 1) := by decide +kernel
theorem dX11_digestRows_16 : decode cX11_digestRows 16 = .ok (.getfield 82, 3) := by decide +kernel
theorem dX11_digestRows_19 : decode cX11_digestRows 19 = .ok (.i2l, 1) := by decide +kernel
theorem dX11_digestRows_20 : decode cX11_digestRows 20 = .ok (.ladd, 1) := by decide +kernel
theorem dX11_digestRows_21 : decode cX11_digestRows 21 = .ok (.lstore_n 0, 1) := by decide +kernel
theorem dX11_digestRows_22 : decode cX11_digestRows 22 = .ok (.iconst 0, 1) := by decide +kernel
theorem dX11_digestRows_23 : decode cX11_digestRows 23 = .ok (.istore 4, 2) := by decide +kernel
theorem dX11_digestRows_25 : decode cX11_digestRows 25 = .ok (.iload 4, 2) := by decide +kernel
theorem dX11_digestRows_27 : decode cX11_digestRows 27 = .ok (.aload_n 2, 1) := by decide +kernel
theorem dX11_digestRows_28 : decode cX11_digestRows 28 = .ok (.iload_n 3, 1) := by decide +kernel
theorem dX11_digestRows_29 : decode cX11_digestRows 29 = .ok (.aaload, 1) := by decide +kernel
theorem dX11_digestRows_30 : decode cX11_digestRows 30 = .ok (.getfield 82, 3) := by decide +kernel
theorem dX11_digestRows_33 : decode cX11_digestRows 33 = .ok (.if_icmp .ge 26, 3) := by decide +kernel
theorem dX11_digestRows_36 : decode cX11_digestRows 36 = .ok (.ldc2_w 328, 3) := by decide +kernel
theorem dX11_digestRows_39 : decode cX11_digestRows 39 = .ok (.lload_n 0, 1) := by decide +kernel
theorem dX11_digestRows_40 : decode cX11_digestRows 40 = .ok (.lmul, 1) := by decide +kernel
theorem dX11_digestRows_41 : decode cX11_digestRows 41 = .ok (.aload_n 2, 1) := by decide +kernel
theorem dX11_digestRows_42 : decode cX11_digestRows 42 = .ok (.iload_n 3, 1) := by decide +kernel
theorem dX11_digestRows_43 : decode cX11_digestRows 43 = .ok (.aaload, 1) := by decide +kernel
theorem dX11_digestRows_44 : decode cX11_digestRows 44 = .ok (.getfield 72, 3) := by decide +kernel
theorem dX11_digestRows_47 : decode cX11_digestRows 47 = .ok (.iload 4, 2) := by decide +kernel
theorem dX11_digestRows_49 : decode cX11_digestRows 49 = .ok (.iaload, 1) := by decide +kernel
theorem dX11_digestRows_50 : decode cX11_digestRows 50 = .ok (.i2l, 1) := by decide +kernel
theorem dX11_digestRows_51 : decode cX11_digestRows 51 = .ok (.ladd, 1) := by decide +kernel
theorem dX11_digestRows_52 : decode cX11_digestRows 52 = .ok (.lstore_n 0, 1) := by decide +kernel
theorem dX11_digestRows_53 : decode cX11_digestRows 53 = .ok (.iinc 4 1, 3) := by decide +kernel
theorem dX11_digestRows_56 : decode cX11_digestRows 56 = .ok (.goto (-31), 3) := by decide +kernel
theorem dX11_digestRows_59 : decode cX11_digestRows 59 = .ok (.iinc 3 1, 3) := by decide +kernel
theorem dX11_digestRows_62 : decode cX11_digestRows 62 = .ok (.goto (-60), 3) := by decide +kernel
theorem dX11_digestRows_65 : decode cX11_digestRows 65 = .ok (.lload_n 0, 1) := by decide +kernel
theorem dX11_digestRows_66 : decode cX11_digestRows 66 = .ok (.lreturn, 1) := by decide +kernel
