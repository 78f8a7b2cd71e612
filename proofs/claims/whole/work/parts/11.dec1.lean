theorem dX5_init_0 : decode cX5_init 0 = .ok (.aload_n 0, 1) := by decide +kernel
theorem dX5_init_1 : decode cX5_init 1 = .ok (.invokespecial 3, 3) := by decide +kernel
theorem dX5_init_4 : decode cX5_init 4 = .ok (.aload_n 0, 1) := by decide +kernel
theorem dX5_init_5 : decode cX5_init 5 = .ok (.aconst_null, 1) := by decide +kernel
theorem dX5_init_6 : decode cX5_init 6 = .ok (.putfield 9, 3) := by decide +kernel
theorem dX5_init_9 : decode cX5_init 9 = .ok (.aload_n 0, 1) := by decide +kernel
theorem dX5_init_10 : decode cX5_init 10 = .ok (.new 15, 3) := by decide +kernel
theorem dX5_init_13 : decode cX5_init 13 = .ok (.dup, 1) := by decide +kernel
theorem dX5_init_14 : decode cX5_init 14 = .ok (.invokespecial 17, 3) := by decide +kernel
theorem dX5_init_17 : decode cX5_init 17 = .ok (.putfield 18, 3) := by decide +kernel
theorem dX5_init_20 : decode cX5_init 20 = .ok (.aload_n 0, 1) := by decide +kernel
theorem dX5_init_21 : decode cX5_init 21 = .ok (.bipush 8, 2) := by decide +kernel
theorem dX5_init_23 : decode cX5_init 23 = .ok (.newarray .int, 2) := by decide +kernel
theorem dX5_init_25 : decode cX5_init 25 = .ok (.putfield 22, 3) := by decide +kernel
theorem dX5_init_28 : decode cX5_init 28 = .ok (.aload_n 0, 1) := by decide +kernel
theorem dX5_init_29 : decode cX5_init 29 = .ok (.bipush 8, 2) := by decide +kernel
theorem dX5_init_31 : decode cX5_init 31 = .ok (.bipush 42, 2) := by decide +kernel
theorem dX5_init_33 : decode cX5_init 33 = .ok (.multianewarray 26 2, 4) := by decide +kernel
theorem dX5_init_37 : decode cX5_init 37 = .ok (.putfield 28, 3) := by decide +kernel
theorem dX5_init_40 : decode cX5_init 40 = .ok (.aload_n 0, 1) := by decide +kernel
theorem dX5_init_41 : decode cX5_init 41 = .ok (.bipush 8, 2) := by decide +kernel
theorem dX5_init_43 : decode cX5_init 43 = .ok (.bipush 42, 2) := by decide +kernel
theorem dX5_init_45 : decode cX5_init 45 = .ok (.multianewarray 26 2, 4) := by decide +kernel
theorem dX5_init_49 : decode cX5_init 49 = .ok (.putfield 31, 3) := by decide +kernel
theorem dX5_init_52 : decode cX5_init 52 = .ok (.aload_n 0, 1) := by decide +kernel
theorem dX5_init_53 : decode cX5_init 53 = .ok (.bipush 8, 2) := by decide +kernel
theorem dX5_init_55 : decode cX5_init 55 = .ok (.bipush 42, 2) := by decide +kernel
theorem dX5_init_57 : decode cX5_init 57 = .ok (.multianewarray 26 2, 4) := by decide +kernel
theorem dX5_init_61 : decode cX5_init 61 = .ok (.putfield 34, 3) := by decide +kernel
theorem dX5_init_64 : decode cX5_init 64 = .ok (.aload_n 0, 1) := by decide +kernel
theorem dX5_init_65 : decode cX5_init 65 = .ok (.bipush 8, 2) := by decide +kernel
theorem dX5_init_67 : decode cX5_init 67 = .ok (.bipush 42, 2) := by decide +kernel
theorem dX5_init_69 : decode cX5_init 69 = .ok (.multianewarray 26 2, 4) := by decide +kernel
theorem dX5_init_73 : decode cX5_init 73 = .ok (.putfield 37, 3) := by decide +kernel
theorem dX5_init_76 : decode cX5_init 76 = .ok (.aload_n 0, 1) := by decide +kernel
theorem dX5_init_77 : decode cX5_init 77 = .ok (.bipush 8, 2) := by decide +kernel
theorem dX5_init_79 : decode cX5_init 79 = .ok (.newarray .int, 2) := by decide +kernel
theorem dX5_init_81 : decode cX5_init 81 = .ok (.putfield 40, 3) := by decide +kernel
theorem dX5_init_84 : decode cX5_init 84 = .ok (.aload_n 0, 1) := by decide +kernel
theorem dX5_init_85 : decode cX5_init 85 = .ok (.bipush 8, 2) := by decide +kernel
theorem dX5_init_87 : decode cX5_init 87 = .ok (.newarray .int, 2) := by decide +kernel
theorem dX5_init_89 : decode cX5_init 89 = .ok (.putfield 43, 3) := by decide +kernel
theorem dX5_init_92 : decode cX5_init 92 = .ok (.aload_n 0, 1) := by decide +kernel
theorem dX5_init_93 : decode cX5_init 93 = .ok (.bipush 8, 2) := by decide +kernel
theorem dX5_init_95 : decode cX5_init 95 = .ok (.newarray .int, 2) := by decide +kernel
theorem dX5_init_97 : decode cX5_init 97 = .ok (.putfield 46, 3) := by decide +kernel
theorem dX5_init_100 : decode cX5_init 100 = .ok (.aload_n 0, 1) := by decide +kernel
theorem dX5_init_101 : decode cX5_init 101 = .ok (.bipush 8, 2) := by decide +kernel
theorem dX5_init_103 : decode cX5_init 103 = .ok (.newarray .int, 2) := by decide +kernel
theorem dX5_init_105 : decode cX5_init 105 = .ok (.putfield 49, 3) := by decide +kernel
theorem dX5_init_108 : decode cX5_init 108 = .ok (.aload_n 0, 1) := by decide +kernel
theorem dX5_init_109 : decode cX5_init 109 = .ok (.bipush 8, 2) := by decide +kernel
theorem dX5_init_111 : decode cX5_init 111 = .ok (.newarray .int, 2) := by decide +kernel
theorem dX5_init_113 : decode cX5_init 113 = .ok (.putfield 52, 3) := by decide +kernel
theorem dX5_init_116 : decode cX5_init 116 = .ok (.return_, 1) := by decide +kernel
theorem dX5_settle_0 : decode cX5_settle 0 = .ok (.aload_n 0, 1) := by decide +kernel
theorem dX5_settle_1 : decode cX5_settle 1 = .ok (.getfield 9, 3) := by decide +kernel
theorem dX5_settle_4 : decode cX5_settle 4 = .ok (.aload_n 1, 1) := by decide +kernel
theorem dX5_settle_5 : decode cX5_settle 5 = .ok (.if_acmp .ne 15, 3) := by decide +kernel
theorem dX5_settle_8 : decode cX5_settle 8 = .ok (.aload_n 0, 1) := by decide +kernel
theorem dX5_settle_9 : decode cX5_settle 9 = .ok (.getfield 18, 3) := by decide +kernel
theorem dX5_settle_12 : decode cX5_settle 12 = .ok (.aload_n 2, 1) := by decide +kernel
theorem dX5_settle_13 : decode cX5_settle 13 = .ok (.invokevirtual 55, 3) := by decide +kernel
theorem dX5_settle_16 : decode cX5_settle 16 = .ok (.ifCond .eq 4, 3) := by decide +kernel
theorem dX5_settle_19 : decode cX5_settle 19 = .ok (.return_, 1) := by decide +kernel
theorem dX5_settle_20 : decode cX5_settle 20 = .ok (.aload_n 0, 1) := by decide +kernel
theorem dX5_settle_21 : decode cX5_settle 21 = .ok (.aload_n 1, 1) := by decide +kernel
theorem dX5_settle_22 : decode cX5_settle 22 = .ok (.aload_n 2, 1) := by decide +kernel
theorem dX5_settle_23 : decode cX5_settle 23 = .ok (.invokevirtual 59, 3) := by decide +kernel
theorem dX5_settle_26 : decode cX5_settle 26 = .ok (.istore_n 3, 1) := by decide +kernel
theorem dX5_settle_27 : decode cX5_settle 27 = .ok (.aload_n 0, 1) := by decide +kernel
theorem dX5_settle_28 : decode cX5_settle 28 = .ok (.aload_n 1, 1) := by decide +kernel
theorem dX5_settle_29 : decode cX5_settle 29 = .ok (.putfield 9, 3) := by decide +kernel
theorem dX5_settle_32 : decode cX5_settle 32 = .ok (.aload_n 0, 1) := by decide +kernel
theorem dX5_settle_33 : decode cX5_settle 33 = .ok (.getfield 18, 3) := by decide +kernel
theorem dX5_settle_36 : decode cX5_settle 36 = .ok (.aload_n 2, 1) := by decide +kernel
theorem dX5_settle_37 : decode cX5_settle 37 = .ok (.invokevirtual 63, 3) := by decide +kernel
theorem dX5_settle_40 : decode cX5_settle 40 = .ok (.iconst 0, 1) := by decide +kernel
theorem dX5_settle_41 : decode cX5_settle 41 = .ok (.istore 4, 2) := by decide +kernel
theorem dX5_settle_43 : decode cX5_settle 43 = .ok (.iload 4, 2) := by decide +kernel
theorem dX5_settle_45 : decode cX5_settle 45 = .ok (.aload_n 1, 1) := by decide +kernel
theorem dX5_settle_46 : decode cX5_settle 46 = .ok (.getfield 67, 3) := by decide +kernel
theorem dX5_settle_49 : decode cX5_settle 49 = .ok (.if_icmp .ge 47, 3) := by decide +kernel
theorem dX5_settle_52 : decode cX5_settle 52 = .ok (.aload_n 0, 1) := by decide +kernel
theorem dX5_settle_53 : decode cX5_settle 53 = .ok (.getfield 22, 3) := by decide +kernel
theorem dX5_settle_56 : decode cX5_settle 56 = .ok (.iload 4, 2) := by decide +kernel
theorem dX5_settle_58 : decode cX5_settle 58 = .ok (.aload_n 1, 1) := by decide +kernel
theorem dX5_settle_59 : decode cX5_settle 59 = .ok (.getfield 73, 3) := by decide +kernel
theorem dX5_settle_62 : decode cX5_settle 62 = .ok (.iload 4, 2) := by decide +kernel
theorem dX5_settle_64 : decode cX5_settle 64 = .ok (.iaload, 1) := by decide +kernel
theorem dX5_settle_65 : decode cX5_settle 65 = .ok (.iload 4, 2) := by decide +kernel
theorem dX5_settle_67 : decode cX5_settle 67 = .ok (.aload_n 0, 1) := by decide +kernel
theorem dX5_settle_68 : decode cX5_settle 68 = .ok (.getfield 18, 3) := by decide +kernel
theorem dX5_settle_71 : decode cX5_settle 71 = .ok (.getfield 74, 3) := by decide +kernel
theorem dX5_settle_74 : decode cX5_settle 74 = .ok (.if_icmp .ne 13, 3) := by decide +kernel
theorem dX5_settle_77 : decode cX5_settle 77 = .ok (.aload_n 0, 1) := by decide +kernel
theorem dX5_settle_78 : decode cX5_settle 78 = .ok (.getfield 18, 3) := by decide +kernel
theorem dX5_settle_81 : decode cX5_settle 81 = .ok (.getfield 77, 3) := by decide +kernel
theorem dX5_settle_84 : decode cX5_settle 84 = .ok (.goto 4, 3) := by decide +kernel
theorem dX5_settle_87 : decode cX5_settle 87 = .ok (.iconst 0, 1) := by decide +kernel
theorem dX5_settle_88 : decode cX5_settle 88 = .ok (.iadd, 1) := by decide +kernel
theorem dX5_settle_89 : decode cX5_settle 89 = .ok (.iastore, 1) := by decide +kernel
theorem dX5_settle_90 : decode cX5_settle 90 = .ok (.iinc 4 1, 3) := by decide +kernel
theorem dX5_settle_93 : decode cX5_settle 93 = .ok (.goto (-50), 3) := by decide +kernel
theorem dX5_settle_96 : decode cX5_settle 96 = .ok (.iload_n 3, 1) := by decide +kernel
theorem dX5_settle_97 : decode cX5_settle 97 = .ok (.istore 4, 2) := by decide +kernel
theorem dX5_settle_99 : decode cX5_settle 99 = .ok (.iload 4, 2) := by decide +kernel
theorem dX5_settle_101 : decode cX5_settle 101 = .ok (.ifCond .lt 52, 3) := by decide +kernel
theorem dX5_settle_104 : decode cX5_settle 104 = .ok (.aload_n 0, 1) := by decide +kernel
theorem dX5_settle_105 : decode cX5_settle 105 = .ok (.aload_n 1, 1) := by decide +kernel
theorem dX5_settle_106 : decode cX5_settle 106 = .ok (.iload 4, 2) := by decide +kernel
theorem dX5_settle_108 : decode cX5_settle 108 = .ok (.invokevirtual 80, 3) := by decide +kernel
theorem dX5_settle_111 : decode cX5_settle 111 = .ok (.istore 5, 2) := by decide +kernel
theorem dX5_settle_113 : decode cX5_settle 113 = .ok (.aload_n 0, 1) := by decide +kernel
theorem dX5_settle_114 : decode cX5_settle 114 = .ok (.getfield 22, 3) := by decide +kernel
theorem dX5_settle_117 : decode cX5_settle 117 = .ok (.iload 4, 2) := by decide +kernel
theorem dX5_settle_119 : decode cX5_settle 119 = .ok (.iaload, 1) := by decide +kernel
theorem dX5_settle_120 : decode cX5_settle 120 = .ok (.invokestatic 84, 3) := by decide +kernel
theorem dX5_settle_123 : decode cX5_settle 123 = .ok (.istore 6, 2) := by decide +kernel
theorem dX5_settle_125 : decode cX5_settle 125 = .ok (.iload 6, 2) := by decide +kernel
theorem dX5_settle_127 : decode cX5_settle 127 = .ok (.iload 5, 2) := by decide +kernel
theorem dX5_settle_129 : decode cX5_settle 129 = .ok (.if_icmp .gt 18, 3) := by decide +kernel
theorem dX5_settle_132 : decode cX5_settle 132 = .ok (.aload_n 0, 1) := by decide +kernel
theorem dX5_settle_133 : decode cX5_settle 133 = .ok (.aload_n 1, 1) := by decide +kernel
theorem dX5_settle_134 : decode cX5_settle 134 = .ok (.iload 4, 2) := by decide +kernel
theorem dX5_settle_136 : decode cX5_settle 136 = .ok (.iload 6, 2) := by decide +kernel
theorem dX5_settle_138 : decode cX5_settle 138 = .ok (.invokevirtual 88, 3) := by decide +kernel
theorem dX5_settle_141 : decode cX5_settle 141 = .ok (.iinc 6 1, 3) := by decide +kernel
theorem dX5_settle_144 : decode cX5_settle 144 = .ok (.goto (-19), 3) := by decide +kernel
theorem dX5_settle_147 : decode cX5_settle 147 = .ok (.iinc 4 (-1), 3) := by decide +kernel
theorem dX5_settle_150 : decode cX5_settle 150 = .ok (.goto (-51), 3) := by decide +kernel
theorem dX5_settle_153 : decode cX5_settle 153 = .ok (.iconst 0, 1) := by decide +kernel
theorem dX5_settle_154 : decode cX5_settle 154 = .ok (.istore 4, 2) := by decide +kernel
theorem dX5_settle_156 : decode cX5_settle 156 = .ok (.iload 4, 2) := by decide +kernel
theorem dX5_settle_158 : decode cX5_settle 158 = .ok (.aload_n 1, 1) := by decide +kernel
theorem dX5_settle_159 : decode cX5_settle 159 = .ok (.getfield 67, 3) := by decide +kernel
theorem dX5_settle_162 : decode cX5_settle 162 = .ok (.if_icmp .ge 16, 3) := by decide +kernel
theorem dX5_settle_165 : decode cX5_settle 165 = .ok (.aload_n 0, 1) := by decide +kernel
theorem dX5_settle_166 : decode cX5_settle 166 = .ok (.aload_n 1, 1) := by decide +kernel
theorem dX5_settle_167 : decode cX5_settle 167 = .ok (.iload 4, 2) := by decide +kernel
theorem dX5_settle_169 : decode cX5_settle 169 = .ok (.invokevirtual 92, 3) := by decide +kernel
theorem dX5_settle_172 : decode cX5_settle 172 = .ok (.iinc 4 1, 3) := by decide +kernel
theorem dX5_settle_175 : decode cX5_settle 175 = .ok (.goto (-19), 3) := by decide +kernel
theorem dX5_settle_178 : decode cX5_settle 178 = .ok (.iconst 0, 1) := by decide +kernel
theorem dX5_settle_179 : decode cX5_settle 179 = .ok (.istore 4, 2) := by decide +kernel
theorem dX5_settle_181 : decode cX5_settle 181 = .ok (.iload 4, 2) := by decide +kernel
theorem dX5_settle_183 : decode cX5_settle 183 = .ok (.aload_n 1, 1) := by decide +kernel
theorem dX5_settle_184 : decode cX5_settle 184 = .ok (.getfield 67, 3) := by decide +kernel
theorem dX5_settle_187 : decode cX5_settle 187 = .ok (.if_icmp .ge 23, 3) := by decide +kernel
theorem dX5_settle_190 : decode cX5_settle 190 = .ok (.aload_n 0, 1) := by decide +kernel
theorem dX5_settle_191 : decode cX5_settle 191 = .ok (.getfield 52, 3) := by decide +kernel
theorem dX5_settle_194 : decode cX5_settle 194 = .ok (.iload 4, 2) := by decide +kernel
theorem dX5_settle_196 : decode cX5_settle 196 = .ok (.aload_n 0, 1) := by decide +kernel
theorem dX5_settle_197 : decode cX5_settle 197 = .ok (.aload_n 1, 1) := by decide +kernel
theorem dX5_settle_198 : decode cX5_settle 198 = .ok (.iload 4, 2) := by decide +kernel
theorem dX5_settle_200 : decode cX5_settle 200 = .ok (.invokevirtual 96, 3) := by decide +kernel
theorem dX5_settle_203 : decode cX5_settle 203 = .ok (.iastore, 1) := by decide +kernel
theorem dX5_settle_204 : decode cX5_settle 204 = .ok (.iinc 4 1, 3) := by decide +kernel
theorem dX5_settle_207 : decode cX5_settle 207 = .ok (.goto (-26), 3) := by decide +kernel
theorem dX5_settle_210 : decode cX5_settle 210 = .ok (.return_, 1) := by decide +kernel
theorem dX5_lastStale_0 : decode cX5_lastStale 0 = .ok (.aload_n 0, 1) := by decide +kernel
theorem dX5_lastStale_1 : decode cX5_lastStale 1 = .ok (.getfield 9, 3) := by decide +kernel
theorem dX5_lastStale_4 : decode cX5_lastStale 4 = .ok (.aload_n 1, 1) := by decide +kernel
theorem dX5_lastStale_5 : decode cX5_lastStale 5 = .ok (.if_acmp .ne 14, 3) := by decide +kernel
theorem dX5_lastStale_8 : decode cX5_lastStale 8 = .ok (.aload_n 0, 1) := by decide +kernel
theorem dX5_lastStale_9 : decode cX5_lastStale 9 = .ok (.getfield 18, 3) := by decide +kernel
theorem dX5_lastStale_12 : decode cX5_lastStale 12 = .ok (.aload_n 2, 1) := by decide +kernel
theorem dX5_lastStale_13 : decode cX5_lastStale 13 = .ok (.invokevirtual 99, 3) := by decide +kernel
theorem dX5_lastStale_16 : decode cX5_lastStale 16 = .ok (.ifCond .ne 10, 3) := by decide +kernel
theorem dX5_lastStale_19 : decode cX5_lastStale 19 = .ok (.aload_n 1, 1) := by decide +kernel
theorem dX5_lastStale_20 : decode cX5_lastStale 20 = .ok (.getfield 67, 3) := by decide +kernel
theorem dX5_lastStale_23 : decode cX5_lastStale 23 = .ok (.iconst 1, 1) := by decide +kernel
theorem dX5_lastStale_24 : decode cX5_lastStale 24 = .ok (.isub, 1) := by decide +kernel
theorem dX5_lastStale_25 : decode cX5_lastStale 25 = .ok (.ireturn, 1) := by decide +kernel
theorem dX5_lastStale_26 : decode cX5_lastStale 26 = .ok (.aload_n 1, 1) := by decide +kernel
theorem dX5_lastStale_27 : decode cX5_lastStale 27 = .ok (.getfield 67, 3) := by decide +kernel
theorem dX5_lastStale_30 : decode cX5_lastStale 30 = .ok (.iconst 1, 1) := by decide +kernel
theorem dX5_lastStale_31 : decode cX5_lastStale 31 = .ok (.isub, 1) := by decide +kernel
theorem dX5_lastStale_32 : decode cX5_lastStale 32 = .ok (.istore_n 3, 1) := by decide +kernel
theorem dX5_lastStale_33 : decode cX5_lastStale 33 = .ok (.iload_n 3, 1) := by decide +kernel
theorem dX5_lastStale_34 : decode cX5_lastStale 34 = .ok (.ifCond .lt 25, 3) := by decide +kernel
theorem dX5_lastStale_37 : decode cX5_lastStale 37 = .ok (.aload_n 0, 1) := by decide +kernel
theorem dX5_lastStale_38 : decode cX5_lastStale 38 = .ok (.getfield 18, 3) := by decide +kernel
theorem dX5_lastStale_41 : decode cX5_lastStale 41 = .ok (.iload_n 3, 1) := by decide +kernel
theorem dX5_lastStale_42 : decode cX5_lastStale 42 = .ok (.invokevirtual 102, 3) := by decide +kernel
theorem dX5_lastStale_45 : decode cX5_lastStale 45 = .ok (.aload_n 2, 1) := by decide +kernel
theorem dX5_lastStale_46 : decode cX5_lastStale 46 = .ok (.iload_n 3, 1) := by decide +kernel
theorem dX5_lastStale_47 : decode cX5_lastStale 47 = .ok (.invokevirtual 102, 3) := by decide +kernel
theorem dX5_lastStale_50 : decode cX5_lastStale 50 = .ok (.if_icmp .ne 9, 3) := by decide +kernel
theorem dX5_lastStale_53 : decode cX5_lastStale 53 = .ok (.iinc 3 (-1), 3) := by decide +kernel
theorem dX5_lastStale_56 : decode cX5_lastStale 56 = .ok (.goto (-23), 3) := by decide +kernel
theorem dX5_lastStale_59 : decode cX5_lastStale 59 = .ok (.iload_n 3, 1) := by decide +kernel
theorem dX5_lastStale_60 : decode cX5_lastStale 60 = .ok (.iconst 1, 1) := by decide +kernel
theorem dX5_lastStale_61 : decode cX5_lastStale 61 = .ok (.isub, 1) := by decide +kernel
theorem dX5_lastStale_62 : decode cX5_lastStale 62 = .ok (.ireturn, 1) := by decide +kernel
theorem dX5_lastRow_0 : decode cX5_lastRow 0 = .ok (.aload_n 1, 1) := by decide +kernel
theorem dX5_lastRow_1 : decode cX5_lastRow 1 = .ok (.getfield 106, 3) := by decide +kernel
theorem dX5_lastRow_4 : decode cX5_lastRow 4 = .ok (.iload_n 2, 1) := by decide +kernel
theorem dX5_lastRow_5 : decode cX5_lastRow 5 = .ok (.iaload, 1) := by decide +kernel
theorem dX5_lastRow_6 : decode cX5_lastRow 6 = .ok (.iconst (-1), 1) := by decide +kernel
theorem dX5_lastRow_7 : decode cX5_lastRow 7 = .ok (.if_icmp .ne 15, 3) := by decide +kernel
theorem dX5_lastRow_10 : decode cX5_lastRow 10 = .ok (.aload_n 0, 1) := by decide +kernel
theorem dX5_lastRow_11 : decode cX5_lastRow 11 = .ok (.getfield 22, 3) := by decide +kernel
theorem dX5_lastRow_14 : decode cX5_lastRow 14 = .ok (.iload_n 2, 1) := by decide +kernel
theorem dX5_lastRow_15 : decode cX5_lastRow 15 = .ok (.iaload, 1) := by decide +kernel
theorem dX5_lastRow_16 : decode cX5_lastRow 16 = .ok (.invokestatic 84, 3) := by decide +kernel
theorem dX5_lastRow_19 : decode cX5_lastRow 19 = .ok (.goto 5, 3) := by decide +kernel
theorem dX5_lastRow_22 : decode cX5_lastRow 22 = .ok (.bipush 41, 2) := by decide +kernel
theorem dX5_lastRow_24 : decode cX5_lastRow 24 = .ok (.ireturn, 1) := by decide +kernel
theorem dX5_reckon_0 : decode cX5_reckon 0 = .ok (.aload_n 1, 1) := by decide +kernel
theorem dX5_reckon_1 : decode cX5_reckon 1 = .ok (.iload_n 2, 1) := by decide +kernel
theorem dX5_reckon_2 : decode cX5_reckon 2 = .ok (.invokevirtual 109, 3) := by decide +kernel
theorem dX5_reckon_5 : decode cX5_reckon 5 = .ok (.ifCond .eq 72, 3) := by decide +kernel
theorem dX5_reckon_8 : decode cX5_reckon 8 = .ok (.aload_n 1, 1) := by decide +kernel
theorem dX5_reckon_9 : decode cX5_reckon 9 = .ok (.getfield 112, 3) := by decide +kernel
theorem dX5_reckon_12 : decode cX5_reckon 12 = .ok (.iload_n 2, 1) := by decide +kernel
theorem dX5_reckon_13 : decode cX5_reckon 13 = .ok (.aaload, 1) := by decide +kernel
theorem dX5_reckon_14 : decode cX5_reckon 14 = .ok (.aload_n 0, 1) := by decide +kernel
theorem dX5_reckon_15 : decode cX5_reckon 15 = .ok (.getfield 18, 3) := by decide +kernel
theorem dX5_reckon_18 : decode cX5_reckon 18 = .ok (.getfield 115, 3) := by decide +kernel
theorem dX5_reckon_21 : decode cX5_reckon 21 = .ok (.iload_n 3, 1) := by decide +kernel
theorem dX5_reckon_22 : decode cX5_reckon 22 = .ok (.invokestatic 118, 3) := by decide +kernel
theorem dX5_reckon_25 : decode cX5_reckon 25 = .ok (.istore 4, 2) := by decide +kernel
theorem dX5_reckon_27 : decode cX5_reckon 27 = .ok (.aload_n 0, 1) := by decide +kernel
theorem dX5_reckon_28 : decode cX5_reckon 28 = .ok (.getfield 34, 3) := by decide +kernel
theorem dX5_reckon_31 : decode cX5_reckon 31 = .ok (.iload_n 2, 1) := by decide +kernel
theorem dX5_reckon_32 : decode cX5_reckon 32 = .ok (.aaload, 1) := by decide +kernel
theorem dX5_reckon_33 : decode cX5_reckon 33 = .ok (.iload_n 3, 1) := by decide +kernel
theorem dX5_reckon_34 : decode cX5_reckon 34 = .ok (.iload 4, 2) := by decide +kernel
theorem dX5_reckon_36 : decode cX5_reckon 36 = .ok (.iastore, 1) := by decide +kernel
theorem dX5_reckon_37 : decode cX5_reckon 37 = .ok (.aload_n 0, 1) := by decide +kernel
theorem dX5_reckon_38 : decode cX5_reckon 38 = .ok (.getfield 28, 3) := by decide +kernel
theorem dX5_reckon_41 : decode cX5_reckon 41 = .ok (.iload_n 2, 1) := by decide +kernel
theorem dX5_reckon_42 : decode cX5_reckon 42 = .ok (.aaload, 1) := by decide +kernel
theorem dX5_reckon_43 : decode cX5_reckon 43 = .ok (.iload_n 3, 1) := by decide +kernel
theorem dX5_reckon_44 : decode cX5_reckon 44 = .ok (.aload_n 1, 1) := by decide +kernel
theorem dX5_reckon_45 : decode cX5_reckon 45 = .ok (.getfield 112, 3) := by decide +kernel
theorem dX5_reckon_48 : decode cX5_reckon 48 = .ok (.iload_n 2, 1) := by decide +kernel
theorem dX5_reckon_49 : decode cX5_reckon 49 = .ok (.aaload, 1) := by decide +kernel
theorem dX5_reckon_50 : decode cX5_reckon 50 = .ok (.iload 4, 2) := by decide +kernel
theorem dX5_reckon_52 : decode cX5_reckon 52 = .ok (.iaload, 1) := by decide +kernel
theorem dX5_reckon_53 : decode cX5_reckon 53 = .ok (.iastore, 1) := by decide +kernel
theorem dX5_reckon_54 : decode cX5_reckon 54 = .ok (.aload_n 0, 1) := by decide +kernel
theorem dX5_reckon_55 : decode cX5_reckon 55 = .ok (.getfield 31, 3) := by decide +kernel
theorem dX5_reckon_58 : decode cX5_reckon 58 = .ok (.iload_n 2, 1) := by decide +kernel
theorem dX5_reckon_59 : decode cX5_reckon 59 = .ok (.aaload, 1) := by decide +kernel
theorem dX5_reckon_60 : decode cX5_reckon 60 = .ok (.iload_n 3, 1) := by decide +kernel
theorem dX5_reckon_61 : decode cX5_reckon 61 = .ok (.iload 4, 2) := by decide +kernel
theorem dX5_reckon_63 : decode cX5_reckon 63 = .ok (.iload_n 3, 1) := by decide +kernel
theorem dX5_reckon_64 : decode cX5_reckon 64 = .ok (.isub, 1) := by decide +kernel
theorem dX5_reckon_65 : decode cX5_reckon 65 = .ok (.aload_n 1, 1) := by decide +kernel
theorem dX5_reckon_66 : decode cX5_reckon 66 = .ok (.getfield 112, 3) := by decide +kernel
theorem dX5_reckon_69 : decode cX5_reckon 69 = .ok (.iload_n 2, 1) := by decide +kernel
theorem dX5_reckon_70 : decode cX5_reckon 70 = .ok (.aaload, 1) := by decide +kernel
theorem dX5_reckon_71 : decode cX5_reckon 71 = .ok (.iload 4, 2) := by decide +kernel
theorem dX5_reckon_73 : decode cX5_reckon 73 = .ok (.iaload, 1) := by decide +kernel
theorem dX5_reckon_74 : decode cX5_reckon 74 = .ok (.imul, 1) := by decide +kernel
theorem dX5_reckon_75 : decode cX5_reckon 75 = .ok (.iastore, 1) := by decide +kernel
theorem dX5_reckon_76 : decode cX5_reckon 76 = .ok (.return_, 1) := by decide +kernel
theorem dX5_reckon_77 : decode cX5_reckon 77 = .ok (.aload_n 0, 1) := by decide +kernel
theorem dX5_reckon_78 : decode cX5_reckon 78 = .ok (.getfield 18, 3) := by decide +kernel
theorem dX5_reckon_81 : decode cX5_reckon 81 = .ok (.getfield 122, 3) := by decide +kernel
theorem dX5_reckon_84 : decode cX5_reckon 84 = .ok (.ifCond .eq 23, 3) := by decide +kernel
theorem dX5_reckon_87 : decode cX5_reckon 87 = .ok (.aload_n 0, 1) := by decide +kernel
theorem dX5_reckon_88 : decode cX5_reckon 88 = .ok (.getfield 18, 3) := by decide +kernel
theorem dX5_reckon_91 : decode cX5_reckon 91 = .ok (.getfield 126, 3) := by decide +kernel
theorem dX5_reckon_94 : decode cX5_reckon 94 = .ok (.ifCond .ne 13, 3) := by decide +kernel
theorem dX5_reckon_97 : decode cX5_reckon 97 = .ok (.aload_n 0, 1) := by decide +kernel
theorem dX5_reckon_98 : decode cX5_reckon 98 = .ok (.aload_n 1, 1) := by decide +kernel
theorem dX5_reckon_99 : decode cX5_reckon 99 = .ok (.iload_n 2, 1) := by decide +kernel
theorem dX5_reckon_100 : decode cX5_reckon 100 = .ok (.iload_n 3, 1) := by decide +kernel
theorem dX5_reckon_101 : decode cX5_reckon 101 = .ok (.invokevirtual 129, 3) := by decide +kernel
theorem dX5_reckon_104 : decode cX5_reckon 104 = .ok (.goto 4, 3) := by decide +kernel
theorem dX5_reckon_107 : decode cX5_reckon 107 = .ok (.iconst (-1), 1) := by decide +kernel
theorem dX5_reckon_108 : decode cX5_reckon 108 = .ok (.istore 4, 2) := by decide +kernel
theorem dX5_reckon_110 : decode cX5_reckon 110 = .ok (.iconst 0, 1) := by decide +kernel
theorem dX5_reckon_111 : decode cX5_reckon 111 = .ok (.istore 5, 2) := by decide +kernel
theorem dX5_reckon_113 : decode cX5_reckon 113 = .ok (.iconst 0, 1) := by decide +kernel
theorem dX5_reckon_114 : decode cX5_reckon 114 = .ok (.istore 6, 2) := by decide +kernel
theorem dX5_reckon_116 : decode cX5_reckon 116 = .ok (.iload_n 2, 1) := by decide +kernel
theorem dX5_reckon_117 : decode cX5_reckon 117 = .ok (.iconst 1, 1) := by decide +kernel
theorem dX5_reckon_118 : decode cX5_reckon 118 = .ok (.iadd, 1) := by decide +kernel
theorem dX5_reckon_119 : decode cX5_reckon 119 = .ok (.istore 7, 2) := by decide +kernel
theorem dX5_reckon_121 : decode cX5_reckon 121 = .ok (.iload 7, 2) := by decide +kernel
theorem dX5_reckon_123 : decode cX5_reckon 123 = .ok (.aload_n 1, 1) := by decide +kernel
theorem dX5_reckon_124 : decode cX5_reckon 124 = .ok (.getfield 67, 3) := by decide +kernel
theorem dX5_reckon_127 : decode cX5_reckon 127 = .ok (.if_icmp .ge 118, 3) := by decide +kernel
theorem dX5_reckon_130 : decode cX5_reckon 130 = .ok (.aload_n 1, 1) := by decide +kernel
theorem dX5_reckon_131 : decode cX5_reckon 131 = .ok (.getfield 106, 3) := by decide +kernel
theorem dX5_reckon_134 : decode cX5_reckon 134 = .ok (.iload 7, 2) := by decide +kernel
theorem dX5_reckon_136 : decode cX5_reckon 136 = .ok (.iaload, 1) := by decide +kernel
theorem dX5_reckon_137 : decode cX5_reckon 137 = .ok (.iload_n 2, 1) := by decide +kernel
theorem dX5_reckon_138 : decode cX5_reckon 138 = .ok (.if_icmp .ne 101, 3) := by decide +kernel
theorem dX5_reckon_141 : decode cX5_reckon 141 = .ok (.aload_n 0, 1) := by decide +kernel
theorem dX5_reckon_142 : decode cX5_reckon 142 = .ok (.getfield 18, 3) := by decide +kernel
theorem dX5_reckon_145 : decode cX5_reckon 145 = .ok (.iload 7, 2) := by decide +kernel
theorem dX5_reckon_147 : decode cX5_reckon 147 = .ok (.invokevirtual 102, 3) := by decide +kernel
theorem dX5_reckon_150 : decode cX5_reckon 150 = .ok (.ifCond .eq 7, 3) := by decide +kernel
theorem dX5_reckon_153 : decode cX5_reckon 153 = .ok (.iload_n 3, 1) := by decide +kernel
theorem dX5_reckon_154 : decode cX5_reckon 154 = .ok (.goto 41, 3) := by decide +kernel
theorem dX5_reckon_157 : decode cX5_reckon 157 = .ok (.aload_n 0, 1) := by decide +kernel
theorem dX5_reckon_158 : decode cX5_reckon 158 = .ok (.getfield 18, 3) := by decide +kernel
theorem dX5_reckon_161 : decode cX5_reckon 161 = .ok (.getfield 126, 3) := by decide +kernel
theorem dX5_reckon_164 : decode cX5_reckon 164 = .ok (.ifCond .eq 13, 3) := by decide +kernel
theorem dX5_reckon_167 : decode cX5_reckon 167 = .ok (.aload_n 0, 1) := by decide +kernel
theorem dX5_reckon_168 : decode cX5_reckon 168 = .ok (.iload 7, 2) := by decide +kernel
theorem dX5_reckon_170 : decode cX5_reckon 170 = .ok (.iload_n 3, 1) := by decide +kernel
theorem dX5_reckon_171 : decode cX5_reckon 171 = .ok (.invokevirtual 133, 3) := by decide +kernel
theorem dX5_reckon_174 : decode cX5_reckon 174 = .ok (.goto 21, 3) := by decide +kernel
theorem dX5_reckon_177 : decode cX5_reckon 177 = .ok (.iload 4, 2) := by decide +kernel
theorem dX5_reckon_179 : decode cX5_reckon 179 = .ok (.iconst (-1), 1) := by decide +kernel
theorem dX5_reckon_180 : decode cX5_reckon 180 = .ok (.if_icmp .ne 13, 3) := by decide +kernel
theorem dX5_reckon_183 : decode cX5_reckon 183 = .ok (.aload_n 0, 1) := by decide +kernel
theorem dX5_reckon_184 : decode cX5_reckon 184 = .ok (.iload 7, 2) := by decide +kernel
theorem dX5_reckon_186 : decode cX5_reckon 186 = .ok (.iload_n 3, 1) := by decide +kernel
theorem dX5_reckon_187 : decode cX5_reckon 187 = .ok (.invokevirtual 137, 3) := by decide +kernel
theorem dX5_reckon_190 : decode cX5_reckon 190 = .ok (.goto 5, 3) := by decide +kernel
theorem dX5_reckon_193 : decode cX5_reckon 193 = .ok (.iload 4, 2) := by decide +kernel
theorem dX5_reckon_195 : decode cX5_reckon 195 = .ok (.istore 8, 2) := by decide +kernel
theorem dX5_reckon_197 : decode cX5_reckon 197 = .ok (.aload_n 0, 1) := by decide +kernel
theorem dX5_reckon_198 : decode cX5_reckon 198 = .ok (.getfield 37, 3) := by decide +kernel
theorem dX5_reckon_201 : decode cX5_reckon 201 = .ok (.iload 7, 2) := by decide +kernel
theorem dX5_reckon_203 : decode cX5_reckon 203 = .ok (.aaload, 1) := by decide +kernel
theorem dX5_reckon_204 : decode cX5_reckon 204 = .ok (.iload_n 3, 1) := by decide +kernel
theorem dX5_reckon_205 : decode cX5_reckon 205 = .ok (.iload 8, 2) := by decide +kernel
theorem dX5_reckon_207 : decode cX5_reckon 207 = .ok (.iastore, 1) := by decide +kernel
theorem dX5_reckon_208 : decode cX5_reckon 208 = .ok (.iload 5, 2) := by decide +kernel
theorem dX5_reckon_210 : decode cX5_reckon 210 = .ok (.aload_n 0, 1) := by decide +kernel
theorem dX5_reckon_211 : decode cX5_reckon 211 = .ok (.iload 7, 2) := by decide +kernel
theorem dX5_reckon_213 : decode cX5_reckon 213 = .ok (.iload 8, 2) := by decide +kernel
theorem dX5_reckon_215 : decode cX5_reckon 215 = .ok (.invokevirtual 140, 3) := by decide +kernel
theorem dX5_reckon_218 : decode cX5_reckon 218 = .ok (.iadd, 1) := by decide +kernel
theorem dX5_reckon_219 : decode cX5_reckon 219 = .ok (.istore 5, 2) := by decide +kernel
theorem dX5_reckon_221 : decode cX5_reckon 221 = .ok (.iload 6, 2) := by decide +kernel
theorem dX5_reckon_223 : decode cX5_reckon 223 = .ok (.iload 8, 2) := by decide +kernel
theorem dX5_reckon_225 : decode cX5_reckon 225 = .ok (.iload_n 3, 1) := by decide +kernel
theorem dX5_reckon_226 : decode cX5_reckon 226 = .ok (.isub, 1) := by decide +kernel
theorem dX5_reckon_227 : decode cX5_reckon 227 = .ok (.aload_n 0, 1) := by decide +kernel
theorem dX5_reckon_228 : decode cX5_reckon 228 = .ok (.iload 7, 2) := by decide +kernel
theorem dX5_reckon_230 : decode cX5_reckon 230 = .ok (.iload 8, 2) := by decide +kernel
theorem dX5_reckon_232 : decode cX5_reckon 232 = .ok (.invokevirtual 140, 3) := by decide +kernel
theorem dX5_reckon_235 : decode cX5_reckon 235 = .ok (.imul, 1) := by decide +kernel
theorem dX5_reckon_236 : decode cX5_reckon 236 = .ok (.iadd, 1) := by decide +kernel
theorem dX5_reckon_237 : decode cX5_reckon 237 = .ok (.istore 6, 2) := by decide +kernel
theorem dX5_reckon_239 : decode cX5_reckon 239 = .ok (.iinc 7 1, 3) := by decide +kernel
theorem dX5_reckon_242 : decode cX5_reckon 242 = .ok (.goto (-121), 3) := by decide +kernel
theorem dX5_reckon_245 : decode cX5_reckon 245 = .ok (.aload_n 0, 1) := by decide +kernel
theorem dX5_reckon_246 : decode cX5_reckon 246 = .ok (.getfield 28, 3) := by decide +kernel
theorem dX5_reckon_249 : decode cX5_reckon 249 = .ok (.iload_n 2, 1) := by decide +kernel
theorem dX5_reckon_250 : decode cX5_reckon 250 = .ok (.aaload, 1) := by decide +kernel
theorem dX5_reckon_251 : decode cX5_reckon 251 = .ok (.iload_n 3, 1) := by decide +kernel
theorem dX5_reckon_252 : decode cX5_reckon 252 = .ok (.iload 5, 2) := by decide +kernel
theorem dX5_reckon_254 : decode cX5_reckon 254 = .ok (.iastore, 1) := by decide +kernel
theorem dX5_reckon_255 : decode cX5_reckon 255 = .ok (.aload_n 0, 1) := by decide +kernel
theorem dX5_reckon_256 : decode cX5_reckon 256 = .ok (.getfield 31, 3) := by decide +kernel
theorem dX5_reckon_259 : decode cX5_reckon 259 = .ok (.iload_n 2, 1) := by decide +kernel
theorem dX5_reckon_260 : decode cX5_reckon 260 = .ok (.aaload, 1) := by decide +kernel
theorem dX5_reckon_261 : decode cX5_reckon 261 = .ok (.iload_n 3, 1) := by decide +kernel
theorem dX5_reckon_262 : decode cX5_reckon 262 = .ok (.iload 6, 2) := by decide +kernel
theorem dX5_reckon_264 : decode cX5_reckon 264 = .ok (.iastore, 1) := by decide +kernel
theorem dX5_reckon_265 : decode cX5_reckon 265 = .ok (.return_, 1) := by decide +kernel
theorem dX5_ownPrice_0 : decode cX5_ownPrice 0 = .ok (.iconst 0, 1) := by decide +kernel
theorem dX5_ownPrice_1 : decode cX5_ownPrice 1 = .ok (.istore_n 3, 1) := by decide +kernel
theorem dX5_ownPrice_2 : decode cX5_ownPrice 2 = .ok (.iload_n 2, 1) := by decide +kernel
theorem dX5_ownPrice_3 : decode cX5_ownPrice 3 = .ok (.ineg, 1) := by decide +kernel
theorem dX5_ownPrice_4 : decode cX5_ownPrice 4 = .ok (.aload_n 0, 1) := by decide +kernel
theorem dX5_ownPrice_5 : decode cX5_ownPrice 5 = .ok (.iload_n 1, 1) := by decide +kernel
theorem dX5_ownPrice_6 : decode cX5_ownPrice 6 = .ok (.iconst 0, 1) := by decide +kernel
theorem dX5_ownPrice_7 : decode cX5_ownPrice 7 = .ok (.invokevirtual 140, 3) := by decide +kernel
theorem dX5_ownPrice_10 : decode cX5_ownPrice 10 = .ok (.imul, 1) := by decide +kernel
theorem dX5_ownPrice_11 : decode cX5_ownPrice 11 = .ok (.istore 4, 2) := by decide +kernel
theorem dX5_ownPrice_13 : decode cX5_ownPrice 13 = .ok (.iconst 1, 1) := by decide +kernel
theorem dX5_ownPrice_14 : decode cX5_ownPrice 14 = .ok (.istore 5, 2) := by decide +kernel
theorem dX5_ownPrice_16 : decode cX5_ownPrice 16 = .ok (.iload 5, 2) := by decide +kernel
theorem dX5_ownPrice_18 : decode cX5_ownPrice 18 = .ok (.bipush 41, 2) := by decide +kernel
theorem dX5_ownPrice_20 : decode cX5_ownPrice 20 = .ok (.if_icmp .gt 37, 3) := by decide +kernel
theorem dX5_ownPrice_23 : decode cX5_ownPrice 23 = .ok (.iload 5, 2) := by decide +kernel
theorem dX5_ownPrice_25 : decode cX5_ownPrice 25 = .ok (.iload_n 2, 1) := by decide +kernel
theorem dX5_ownPrice_26 : decode cX5_ownPrice 26 = .ok (.isub, 1) := by decide +kernel
theorem dX5_ownPrice_27 : decode cX5_ownPrice 27 = .ok (.aload_n 0, 1) := by decide +kernel
theorem dX5_ownPrice_28 : decode cX5_ownPrice 28 = .ok (.iload_n 1, 1) := by decide +kernel
theorem dX5_ownPrice_29 : decode cX5_ownPrice 29 = .ok (.iload 5, 2) := by decide +kernel
theorem dX5_ownPrice_31 : decode cX5_ownPrice 31 = .ok (.invokevirtual 140, 3) := by decide +kernel
theorem dX5_ownPrice_34 : decode cX5_ownPrice 34 = .ok (.imul, 1) := by decide +kernel
theorem dX5_ownPrice_35 : decode cX5_ownPrice 35 = .ok (.istore 6, 2) := by decide +kernel
theorem dX5_ownPrice_37 : decode cX5_ownPrice 37 = .ok (.iload 6, 2) := by decide +kernel
theorem dX5_ownPrice_39 : decode cX5_ownPrice 39 = .ok (.iload 4, 2) := by decide +kernel
theorem dX5_ownPrice_41 : decode cX5_ownPrice 41 = .ok (.if_icmp .le 10, 3) := by decide +kernel
theorem dX5_ownPrice_44 : decode cX5_ownPrice 44 = .ok (.iload 6, 2) := by decide +kernel
theorem dX5_ownPrice_46 : decode cX5_ownPrice 46 = .ok (.istore 4, 2) := by decide +kernel
theorem dX5_ownPrice_48 : decode cX5_ownPrice 48 = .ok (.iload 5, 2) := by decide +kernel
theorem dX5_ownPrice_50 : decode cX5_ownPrice 50 = .ok (.istore_n 3, 1) := by decide +kernel
theorem dX5_ownPrice_51 : decode cX5_ownPrice 51 = .ok (.iinc 5 1, 3) := by decide +kernel
theorem dX5_ownPrice_54 : decode cX5_ownPrice 54 = .ok (.goto (-38), 3) := by decide +kernel
theorem dX5_ownPrice_57 : decode cX5_ownPrice 57 = .ok (.iload_n 3, 1) := by decide +kernel
theorem dX5_ownPrice_58 : decode cX5_ownPrice 58 = .ok (.ireturn, 1) := by decide +kernel
theorem dX5_commonPrice_0 : decode cX5_commonPrice 0 = .ok (.bipush 41, 2) := by decide +kernel
theorem dX5_commonPrice_2 : decode cX5_commonPrice 2 = .ok (.istore 4, 2) := by decide +kernel
theorem dX5_commonPrice_4 : decode cX5_commonPrice 4 = .ok (.iconst 0, 1) := by decide +kernel
theorem dX5_commonPrice_5 : decode cX5_commonPrice 5 = .ok (.istore 5, 2) := by decide +kernel
theorem dX5_commonPrice_7 : decode cX5_commonPrice 7 = .ok (.bipush 41, 2) := by decide +kernel
theorem dX5_commonPrice_9 : decode cX5_commonPrice 9 = .ok (.istore 6, 2) := by decide +kernel
theorem dX5_commonPrice_11 : decode cX5_commonPrice 11 = .ok (.iload 6, 2) := by decide +kernel
theorem dX5_commonPrice_13 : decode cX5_commonPrice 13 = .ok (.ifCond .lt 100, 3) := by decide +kernel
theorem dX5_commonPrice_16 : decode cX5_commonPrice 16 = .ok (.iconst 0, 1) := by decide +kernel
theorem dX5_commonPrice_17 : decode cX5_commonPrice 17 = .ok (.istore 7, 2) := by decide +kernel
theorem dX5_commonPrice_19 : decode cX5_commonPrice 19 = .ok (.iload_n 2, 1) := by decide +kernel
theorem dX5_commonPrice_20 : decode cX5_commonPrice 20 = .ok (.iconst 1, 1) := by decide +kernel
theorem dX5_commonPrice_21 : decode cX5_commonPrice 21 = .ok (.iadd, 1) := by decide +kernel
theorem dX5_commonPrice_22 : decode cX5_commonPrice 22 = .ok (.istore 8, 2) := by decide +kernel
theorem dX5_commonPrice_24 : decode cX5_commonPrice 24 = .ok (.iload 8, 2) := by decide +kernel
theorem dX5_commonPrice_26 : decode cX5_commonPrice 26 = .ok (.aload_n 1, 1) := by decide +kernel
theorem dX5_commonPrice_27 : decode cX5_commonPrice 27 = .ok (.getfield 67, 3) := by decide +kernel
theorem dX5_commonPrice_30 : decode cX5_commonPrice 30 = .ok (.if_icmp .ge 45, 3) := by decide +kernel
theorem dX5_commonPrice_33 : decode cX5_commonPrice 33 = .ok (.aload_n 1, 1) := by decide +kernel
theorem dX5_commonPrice_34 : decode cX5_commonPrice 34 = .ok (.getfield 106, 3) := by decide +kernel
theorem dX5_commonPrice_37 : decode cX5_commonPrice 37 = .ok (.iload 8, 2) := by decide +kernel
theorem dX5_commonPrice_39 : decode cX5_commonPrice 39 = .ok (.iaload, 1) := by decide +kernel
theorem dX5_commonPrice_40 : decode cX5_commonPrice 40 = .ok (.iload_n 2, 1) := by decide +kernel
theorem dX5_commonPrice_41 : decode cX5_commonPrice 41 = .ok (.if_icmp .ne 28, 3) := by decide +kernel
theorem dX5_commonPrice_44 : decode cX5_commonPrice 44 = .ok (.aload_n 0, 1) := by decide +kernel
theorem dX5_commonPrice_45 : decode cX5_commonPrice 45 = .ok (.getfield 18, 3) := by decide +kernel
theorem dX5_commonPrice_48 : decode cX5_commonPrice 48 = .ok (.iload 8, 2) := by decide +kernel
theorem dX5_commonPrice_50 : decode cX5_commonPrice 50 = .ok (.invokevirtual 102, 3) := by decide +kernel
theorem dX5_commonPrice_53 : decode cX5_commonPrice 53 = .ok (.ifCond .ne 16, 3) := by decide +kernel
theorem dX5_commonPrice_56 : decode cX5_commonPrice 56 = .ok (.iload 7, 2) := by decide +kernel
theorem dX5_commonPrice_58 : decode cX5_commonPrice 58 = .ok (.aload_n 0, 1) := by decide +kernel
theorem dX5_commonPrice_59 : decode cX5_commonPrice 59 = .ok (.iload 8, 2) := by decide +kernel
theorem dX5_commonPrice_61 : decode cX5_commonPrice 61 = .ok (.iload 6, 2) := by decide +kernel
theorem dX5_commonPrice_63 : decode cX5_commonPrice 63 = .ok (.invokevirtual 140, 3) := by decide +kernel
theorem dX5_commonPrice_66 : decode cX5_commonPrice 66 = .ok (.iadd, 1) := by decide +kernel
theorem dX5_commonPrice_67 : decode cX5_commonPrice 67 = .ok (.istore 7, 2) := by decide +kernel
theorem dX5_commonPrice_69 : decode cX5_commonPrice 69 = .ok (.iinc 8 1, 3) := by decide +kernel
theorem dX5_commonPrice_72 : decode cX5_commonPrice 72 = .ok (.goto (-48), 3) := by decide +kernel
theorem dX5_commonPrice_75 : decode cX5_commonPrice 75 = .ok (.iload 6, 2) := by decide +kernel
theorem dX5_commonPrice_77 : decode cX5_commonPrice 77 = .ok (.bipush 41, 2) := by decide +kernel
theorem dX5_commonPrice_79 : decode cX5_commonPrice 79 = .ok (.if_icmp .eq 15, 3) := by decide +kernel
theorem dX5_commonPrice_82 : decode cX5_commonPrice 82 = .ok (.iload 6, 2) := by decide +kernel
theorem dX5_commonPrice_84 : decode cX5_commonPrice 84 = .ok (.iload_n 3, 1) := by decide +kernel
theorem dX5_commonPrice_85 : decode cX5_commonPrice 85 = .ok (.isub, 1) := by decide +kernel
theorem dX5_commonPrice_86 : decode cX5_commonPrice 86 = .ok (.iload 7, 2) := by decide +kernel
theorem dX5_commonPrice_88 : decode cX5_commonPrice 88 = .ok (.imul, 1) := by decide +kernel
theorem dX5_commonPrice_89 : decode cX5_commonPrice 89 = .ok (.iload 5, 2) := by decide +kernel
theorem dX5_commonPrice_91 : decode cX5_commonPrice 91 = .ok (.if_icmp .lt 16, 3) := by decide +kernel
theorem dX5_commonPrice_94 : decode cX5_commonPrice 94 = .ok (.iload 6, 2) := by decide +kernel
theorem dX5_commonPrice_96 : decode cX5_commonPrice 96 = .ok (.iload_n 3, 1) := by decide +kernel
theorem dX5_commonPrice_97 : decode cX5_commonPrice 97 = .ok (.isub, 1) := by decide +kernel
theorem dX5_commonPrice_98 : decode cX5_commonPrice 98 = .ok (.iload 7, 2) := by decide +kernel
theorem dX5_commonPrice_100 : decode cX5_commonPrice 100 = .ok (.imul, 1) := by decide +kernel
theorem dX5_commonPrice_101 : decode cX5_commonPrice 101 = .ok (.istore 5, 2) := by decide +kernel
theorem dX5_commonPrice_103 : decode cX5_commonPrice 103 = .ok (.iload 6, 2) := by decide +kernel
theorem dX5_commonPrice_105 : decode cX5_commonPrice 105 = .ok (.istore 4, 2) := by decide +kernel
theorem dX5_commonPrice_107 : decode cX5_commonPrice 107 = .ok (.iinc 6 (-1), 3) := by decide +kernel
theorem dX5_commonPrice_110 : decode cX5_commonPrice 110 = .ok (.goto (-99), 3) := by decide +kernel
theorem dX5_commonPrice_113 : decode cX5_commonPrice 113 = .ok (.iload 4, 2) := by decide +kernel
theorem dX5_commonPrice_115 : decode cX5_commonPrice 115 = .ok (.ireturn, 1) := by decide +kernel
theorem dX5_halvedPrice_0 : decode cX5_halvedPrice 0 = .ok (.bipush 41, 2) := by decide +kernel
theorem dX5_halvedPrice_2 : decode cX5_halvedPrice 2 = .ok (.istore_n 3, 1) := by decide +kernel
theorem dX5_halvedPrice_3 : decode cX5_halvedPrice 3 = .ok (.iconst (-1), 1) := by decide +kernel
theorem dX5_halvedPrice_4 : decode cX5_halvedPrice 4 = .ok (.istore 4, 2) := by decide +kernel
theorem dX5_halvedPrice_6 : decode cX5_halvedPrice 6 = .ok (.iconst 0, 1) := by decide +kernel
theorem dX5_halvedPrice_7 : decode cX5_halvedPrice 7 = .ok (.istore 5, 2) := by decide +kernel
theorem dX5_halvedPrice_9 : decode cX5_halvedPrice 9 = .ok (.iload 5, 2) := by decide +kernel
theorem dX5_halvedPrice_11 : decode cX5_halvedPrice 11 = .ok (.bipush 41, 2) := by decide +kernel
theorem dX5_halvedPrice_13 : decode cX5_halvedPrice 13 = .ok (.if_icmp .gt 74, 3) := by decide +kernel
theorem dX5_halvedPrice_16 : decode cX5_halvedPrice 16 = .ok (.iload 5, 2) := by decide +kernel
theorem dX5_halvedPrice_18 : decode cX5_halvedPrice 18 = .ok (.iload_n 2, 1) := by decide +kernel
theorem dX5_halvedPrice_19 : decode cX5_halvedPrice 19 = .ok (.isub, 1) := by decide +kernel
theorem dX5_halvedPrice_20 : decode cX5_halvedPrice 20 = .ok (.aload_n 0, 1) := by decide +kernel
theorem dX5_halvedPrice_21 : decode cX5_halvedPrice 21 = .ok (.iload_n 1, 1) := by decide +kernel
theorem dX5_halvedPrice_22 : decode cX5_halvedPrice 22 = .ok (.iload 5, 2) := by decide +kernel
theorem dX5_halvedPrice_24 : decode cX5_halvedPrice 24 = .ok (.invokevirtual 140, 3) := by decide +kernel
theorem dX5_halvedPrice_27 : decode cX5_halvedPrice 27 = .ok (.imul, 1) := by decide +kernel
theorem dX5_halvedPrice_28 : decode cX5_halvedPrice 28 = .ok (.istore 6, 2) := by decide +kernel
theorem dX5_halvedPrice_30 : decode cX5_halvedPrice 30 = .ok (.aload_n 0, 1) := by decide +kernel
theorem dX5_halvedPrice_31 : decode cX5_halvedPrice 31 = .ok (.getfield 31, 3) := by decide +kernel
theorem dX5_halvedPrice_34 : decode cX5_halvedPrice 34 = .ok (.iload_n 1, 1) := by decide +kernel
theorem dX5_halvedPrice_35 : decode cX5_halvedPrice 35 = .ok (.aaload, 1) := by decide +kernel
theorem dX5_halvedPrice_36 : decode cX5_halvedPrice 36 = .ok (.iload 5, 2) := by decide +kernel
theorem dX5_halvedPrice_38 : decode cX5_halvedPrice 38 = .ok (.aload_n 0, 1) := by decide +kernel
theorem dX5_halvedPrice_39 : decode cX5_halvedPrice 39 = .ok (.getfield 22, 3) := by decide +kernel
theorem dX5_halvedPrice_42 : decode cX5_halvedPrice 42 = .ok (.iload_n 1, 1) := by decide +kernel
theorem dX5_halvedPrice_43 : decode cX5_halvedPrice 43 = .ok (.iaload, 1) := by decide +kernel
theorem dX5_halvedPrice_44 : decode cX5_halvedPrice 44 = .ok (.iadd, 1) := by decide +kernel
theorem dX5_halvedPrice_45 : decode cX5_halvedPrice 45 = .ok (.invokestatic 84, 3) := by decide +kernel
theorem dX5_halvedPrice_48 : decode cX5_halvedPrice 48 = .ok (.iaload, 1) := by decide +kernel
theorem dX5_halvedPrice_49 : decode cX5_halvedPrice 49 = .ok (.istore 7, 2) := by decide +kernel
theorem dX5_halvedPrice_51 : decode cX5_halvedPrice 51 = .ok (.iload 6, 2) := by decide +kernel
theorem dX5_halvedPrice_53 : decode cX5_halvedPrice 53 = .ok (.ifCond .lt 28, 3) := by decide +kernel
theorem dX5_halvedPrice_56 : decode cX5_halvedPrice 56 = .ok (.iload 7, 2) := by decide +kernel
theorem dX5_halvedPrice_58 : decode cX5_halvedPrice 58 = .ok (.ifCond .lt 23, 3) := by decide +kernel
theorem dX5_halvedPrice_61 : decode cX5_halvedPrice 61 = .ok (.iload 6, 2) := by decide +kernel
theorem dX5_halvedPrice_63 : decode cX5_halvedPrice 63 = .ok (.iload 7, 2) := by decide +kernel
theorem dX5_halvedPrice_65 : decode cX5_halvedPrice 65 = .ok (.imul, 1) := by decide +kernel
theorem dX5_halvedPrice_66 : decode cX5_halvedPrice 66 = .ok (.iload 4, 2) := by decide +kernel
theorem dX5_halvedPrice_68 : decode cX5_halvedPrice 68 = .ok (.if_icmp .le 13, 3) := by decide +kernel
theorem dX5_halvedPrice_71 : decode cX5_halvedPrice 71 = .ok (.iload 6, 2) := by decide +kernel
theorem dX5_halvedPrice_73 : decode cX5_halvedPrice 73 = .ok (.iload 7, 2) := by decide +kernel
theorem dX5_halvedPrice_75 : decode cX5_halvedPrice 75 = .ok (.imul, 1) := by decide +kernel
theorem dX5_halvedPrice_76 : decode cX5_halvedPrice 76 = .ok (.istore 4, 2) := by decide +kernel
theorem dX5_halvedPrice_78 : decode cX5_halvedPrice 78 = .ok (.iload 5, 2) := by decide +kernel
theorem dX5_halvedPrice_80 : decode cX5_halvedPrice 80 = .ok (.istore_n 3, 1) := by decide +kernel
theorem dX5_halvedPrice_81 : decode cX5_halvedPrice 81 = .ok (.iinc 5 1, 3) := by decide +kernel
theorem dX5_halvedPrice_84 : decode cX5_halvedPrice 84 = .ok (.goto (-75), 3) := by decide +kernel
theorem dX5_halvedPrice_87 : decode cX5_halvedPrice 87 = .ok (.iload_n 3, 1) := by decide +kernel
theorem dX5_halvedPrice_88 : decode cX5_halvedPrice 88 = .ok (.ireturn, 1) := by decide +kernel
theorem dX5_takesAt_0 : decode cX5_takesAt 0 = .ok (.aload_n 0, 1) := by decide +kernel
theorem dX5_takesAt_1 : decode cX5_takesAt 1 = .ok (.getfield 28, 3) := by decide +kernel
theorem dX5_takesAt_4 : decode cX5_takesAt 4 = .ok (.iload_n 1, 1) := by decide +kernel
theorem dX5_takesAt_5 : decode cX5_takesAt 5 = .ok (.aaload, 1) := by decide +kernel
theorem dX5_takesAt_6 : decode cX5_takesAt 6 = .ok (.iload_n 2, 1) := by decide +kernel
theorem dX5_takesAt_7 : decode cX5_takesAt 7 = .ok (.aload_n 0, 1) := by decide +kernel
theorem dX5_takesAt_8 : decode cX5_takesAt 8 = .ok (.getfield 22, 3) := by decide +kernel
theorem dX5_takesAt_11 : decode cX5_takesAt 11 = .ok (.iload_n 1, 1) := by decide +kernel
theorem dX5_takesAt_12 : decode cX5_takesAt 12 = .ok (.iaload, 1) := by decide +kernel
theorem dX5_takesAt_13 : decode cX5_takesAt 13 = .ok (.iadd, 1) := by decide +kernel
theorem dX5_takesAt_14 : decode cX5_takesAt 14 = .ok (.invokestatic 84, 3) := by decide +kernel
theorem dX5_takesAt_17 : decode cX5_takesAt 17 = .ok (.iaload, 1) := by decide +kernel
theorem dX5_takesAt_18 : decode cX5_takesAt 18 = .ok (.ireturn, 1) := by decide +kernel
theorem dX5_takenAt_0 : decode cX5_takenAt 0 = .ok (.aload_n 0, 1) := by decide +kernel
theorem dX5_takenAt_1 : decode cX5_takenAt 1 = .ok (.aload_n 1, 1) := by decide +kernel
theorem dX5_takenAt_2 : decode cX5_takenAt 2 = .ok (.iload_n 2, 1) := by decide +kernel
theorem dX5_takenAt_3 : decode cX5_takenAt 3 = .ok (.iload_n 3, 1) := by decide +kernel
theorem dX5_takenAt_4 : decode cX5_takenAt 4 = .ok (.invokestatic 84, 3) := by decide +kernel
theorem dX5_takenAt_7 : decode cX5_takenAt 7 = .ok (.invokevirtual 88, 3) := by decide +kernel
theorem dX5_takenAt_10 : decode cX5_takenAt 10 = .ok (.aload_n 0, 1) := by decide +kernel
theorem dX5_takenAt_11 : decode cX5_takenAt 11 = .ok (.getfield 28, 3) := by decide +kernel
theorem dX5_takenAt_14 : decode cX5_takenAt 14 = .ok (.iload_n 2, 1) := by decide +kernel
theorem dX5_takenAt_15 : decode cX5_takenAt 15 = .ok (.aaload, 1) := by decide +kernel
theorem dX5_takenAt_16 : decode cX5_takenAt 16 = .ok (.iload_n 3, 1) := by decide +kernel
theorem dX5_takenAt_17 : decode cX5_takenAt 17 = .ok (.invokestatic 84, 3) := by decide +kernel
theorem dX5_takenAt_20 : decode cX5_takenAt 20 = .ok (.iaload, 1) := by decide +kernel
theorem dX5_takenAt_21 : decode cX5_takenAt 21 = .ok (.ireturn, 1) := by decide +kernel
theorem dX5_trace_0 : decode cX5_trace 0 = .ok (.aload_n 1, 1) := by decide +kernel
theorem dX5_trace_1 : decode cX5_trace 1 = .ok (.getfield 106, 3) := by decide +kernel
theorem dX5_trace_4 : decode cX5_trace 4 = .ok (.iload_n 2, 1) := by decide +kernel
theorem dX5_trace_5 : decode cX5_trace 5 = .ok (.iaload, 1) := by decide +kernel
theorem dX5_trace_6 : decode cX5_trace 6 = .ok (.istore_n 3, 1) := by decide +kernel
theorem dX5_trace_7 : decode cX5_trace 7 = .ok (.iload_n 3, 1) := by decide +kernel
theorem dX5_trace_8 : decode cX5_trace 8 = .ok (.ifCond .ge 13, 3) := by decide +kernel
theorem dX5_trace_11 : decode cX5_trace 11 = .ok (.aload_n 0, 1) := by decide +kernel
theorem dX5_trace_12 : decode cX5_trace 12 = .ok (.getfield 40, 3) := by decide +kernel
theorem dX5_trace_15 : decode cX5_trace 15 = .ok (.iload_n 2, 1) := by decide +kernel
theorem dX5_trace_16 : decode cX5_trace 16 = .ok (.iconst 0, 1) := by decide +kernel
theorem dX5_trace_17 : decode cX5_trace 17 = .ok (.iastore, 1) := by decide +kernel
theorem dX5_trace_18 : decode cX5_trace 18 = .ok (.goto 45, 3) := by decide +kernel
theorem dX5_trace_21 : decode cX5_trace 21 = .ok (.aload_n 0, 1) := by decide +kernel
theorem dX5_trace_22 : decode cX5_trace 22 = .ok (.getfield 40, 3) := by decide +kernel
theorem dX5_trace_25 : decode cX5_trace 25 = .ok (.iload_n 2, 1) := by decide +kernel
theorem dX5_trace_26 : decode cX5_trace 26 = .ok (.aload_n 0, 1) := by decide +kernel
theorem dX5_trace_27 : decode cX5_trace 27 = .ok (.getfield 18, 3) := by decide +kernel
theorem dX5_trace_30 : decode cX5_trace 30 = .ok (.iload_n 2, 1) := by decide +kernel
theorem dX5_trace_31 : decode cX5_trace 31 = .ok (.invokevirtual 102, 3) := by decide +kernel
theorem dX5_trace_34 : decode cX5_trace 34 = .ok (.ifCond .eq 12, 3) := by decide +kernel
theorem dX5_trace_37 : decode cX5_trace 37 = .ok (.aload_n 0, 1) := by decide +kernel
theorem dX5_trace_38 : decode cX5_trace 38 = .ok (.getfield 43, 3) := by decide +kernel
theorem dX5_trace_41 : decode cX5_trace 41 = .ok (.iload_n 3, 1) := by decide +kernel
theorem dX5_trace_42 : decode cX5_trace 42 = .ok (.iaload, 1) := by decide +kernel
theorem dX5_trace_43 : decode cX5_trace 43 = .ok (.goto 19, 3) := by decide +kernel
theorem dX5_trace_46 : decode cX5_trace 46 = .ok (.aload_n 0, 1) := by decide +kernel
theorem dX5_trace_47 : decode cX5_trace 47 = .ok (.getfield 37, 3) := by decide +kernel
theorem dX5_trace_50 : decode cX5_trace 50 = .ok (.iload_n 2, 1) := by decide +kernel
theorem dX5_trace_51 : decode cX5_trace 51 = .ok (.aaload, 1) := by decide +kernel
theorem dX5_trace_52 : decode cX5_trace 52 = .ok (.aload_n 0, 1) := by decide +kernel
theorem dX5_trace_53 : decode cX5_trace 53 = .ok (.getfield 43, 3) := by decide +kernel
theorem dX5_trace_56 : decode cX5_trace 56 = .ok (.iload_n 3, 1) := by decide +kernel
theorem dX5_trace_57 : decode cX5_trace 57 = .ok (.iaload, 1) := by decide +kernel
theorem dX5_trace_58 : decode cX5_trace 58 = .ok (.invokestatic 84, 3) := by decide +kernel
theorem dX5_trace_61 : decode cX5_trace 61 = .ok (.iaload, 1) := by decide +kernel
theorem dX5_trace_62 : decode cX5_trace 62 = .ok (.iastore, 1) := by decide +kernel
theorem dX5_trace_63 : decode cX5_trace 63 = .ok (.aload_n 0, 1) := by decide +kernel
theorem dX5_trace_64 : decode cX5_trace 64 = .ok (.getfield 43, 3) := by decide +kernel
theorem dX5_trace_67 : decode cX5_trace 67 = .ok (.iload_n 2, 1) := by decide +kernel
theorem dX5_trace_68 : decode cX5_trace 68 = .ok (.aload_n 0, 1) := by decide +kernel
theorem dX5_trace_69 : decode cX5_trace 69 = .ok (.getfield 40, 3) := by decide +kernel
theorem dX5_trace_72 : decode cX5_trace 72 = .ok (.iload_n 2, 1) := by decide +kernel
theorem dX5_trace_73 : decode cX5_trace 73 = .ok (.iaload, 1) := by decide +kernel
theorem dX5_trace_74 : decode cX5_trace 74 = .ok (.aload_n 0, 1) := by decide +kernel
theorem dX5_trace_75 : decode cX5_trace 75 = .ok (.getfield 22, 3) := by decide +kernel
theorem dX5_trace_78 : decode cX5_trace 78 = .ok (.iload_n 2, 1) := by decide +kernel
theorem dX5_trace_79 : decode cX5_trace 79 = .ok (.iaload, 1) := by decide +kernel
theorem dX5_trace_80 : decode cX5_trace 80 = .ok (.iadd, 1) := by decide +kernel
theorem dX5_trace_81 : decode cX5_trace 81 = .ok (.iastore, 1) := by decide +kernel
theorem dX5_trace_82 : decode cX5_trace 82 = .ok (.aload_n 0, 1) := by decide +kernel
theorem dX5_trace_83 : decode cX5_trace 83 = .ok (.getfield 46, 3) := by decide +kernel
theorem dX5_trace_86 : decode cX5_trace 86 = .ok (.iload_n 2, 1) := by decide +kernel
theorem dX5_trace_87 : decode cX5_trace 87 = .ok (.aload_n 1, 1) := by decide +kernel
theorem dX5_trace_88 : decode cX5_trace 88 = .ok (.iload_n 2, 1) := by decide +kernel
theorem dX5_trace_89 : decode cX5_trace 89 = .ok (.invokevirtual 109, 3) := by decide +kernel
theorem dX5_trace_92 : decode cX5_trace 92 = .ok (.ifCond .eq 22, 3) := by decide +kernel
theorem dX5_trace_95 : decode cX5_trace 95 = .ok (.aload_n 0, 1) := by decide +kernel
theorem dX5_trace_96 : decode cX5_trace 96 = .ok (.getfield 34, 3) := by decide +kernel
theorem dX5_trace_99 : decode cX5_trace 99 = .ok (.iload_n 2, 1) := by decide +kernel
theorem dX5_trace_100 : decode cX5_trace 100 = .ok (.aaload, 1) := by decide +kernel
theorem dX5_trace_101 : decode cX5_trace 101 = .ok (.aload_n 0, 1) := by decide +kernel
theorem dX5_trace_102 : decode cX5_trace 102 = .ok (.getfield 43, 3) := by decide +kernel
theorem dX5_trace_105 : decode cX5_trace 105 = .ok (.iload_n 2, 1) := by decide +kernel
theorem dX5_trace_106 : decode cX5_trace 106 = .ok (.iaload, 1) := by decide +kernel
theorem dX5_trace_107 : decode cX5_trace 107 = .ok (.invokestatic 84, 3) := by decide +kernel
theorem dX5_trace_110 : decode cX5_trace 110 = .ok (.iaload, 1) := by decide +kernel
theorem dX5_trace_111 : decode cX5_trace 111 = .ok (.goto 4, 3) := by decide +kernel
theorem dX5_trace_114 : decode cX5_trace 114 = .ok (.iconst (-1), 1) := by decide +kernel
theorem dX5_trace_115 : decode cX5_trace 115 = .ok (.iastore, 1) := by decide +kernel
theorem dX5_trace_116 : decode cX5_trace 116 = .ok (.aload_n 0, 1) := by decide +kernel
theorem dX5_trace_117 : decode cX5_trace 117 = .ok (.getfield 49, 3) := by decide +kernel
theorem dX5_trace_120 : decode cX5_trace 120 = .ok (.iload_n 2, 1) := by decide +kernel
theorem dX5_trace_121 : decode cX5_trace 121 = .ok (.aload_n 0, 1) := by decide +kernel
theorem dX5_trace_122 : decode cX5_trace 122 = .ok (.getfield 28, 3) := by decide +kernel
theorem dX5_trace_125 : decode cX5_trace 125 = .ok (.iload_n 2, 1) := by decide +kernel
theorem dX5_trace_126 : decode cX5_trace 126 = .ok (.aaload, 1) := by decide +kernel
theorem dX5_trace_127 : decode cX5_trace 127 = .ok (.aload_n 0, 1) := by decide +kernel
theorem dX5_trace_128 : decode cX5_trace 128 = .ok (.getfield 43, 3) := by decide +kernel
theorem dX5_trace_131 : decode cX5_trace 131 = .ok (.iload_n 2, 1) := by decide +kernel
theorem dX5_trace_132 : decode cX5_trace 132 = .ok (.iaload, 1) := by decide +kernel
theorem dX5_trace_133 : decode cX5_trace 133 = .ok (.invokestatic 84, 3) := by decide +kernel
theorem dX5_trace_136 : decode cX5_trace 136 = .ok (.iaload, 1) := by decide +kernel
theorem dX5_trace_137 : decode cX5_trace 137 = .ok (.iastore, 1) := by decide +kernel
theorem dX5_trace_138 : decode cX5_trace 138 = .ok (.return_, 1) := by decide +kernel
theorem dX5_earnedBy_0 : decode cX5_earnedBy 0 = .ok (.aload_n 1, 1) := by decide +kernel
theorem dX5_earnedBy_1 : decode cX5_earnedBy 1 = .ok (.iload_n 2, 1) := by decide +kernel
theorem dX5_earnedBy_2 : decode cX5_earnedBy 2 = .ok (.invokevirtual 109, 3) := by decide +kernel
theorem dX5_earnedBy_5 : decode cX5_earnedBy 5 = .ok (.ifCond .eq 24, 3) := by decide +kernel
theorem dX5_earnedBy_8 : decode cX5_earnedBy 8 = .ok (.aload_n 0, 1) := by decide +kernel
theorem dX5_earnedBy_9 : decode cX5_earnedBy 9 = .ok (.getfield 46, 3) := by decide +kernel
theorem dX5_earnedBy_12 : decode cX5_earnedBy 12 = .ok (.iload_n 2, 1) := by decide +kernel
theorem dX5_earnedBy_13 : decode cX5_earnedBy 13 = .ok (.iaload, 1) := by decide +kernel
theorem dX5_earnedBy_14 : decode cX5_earnedBy 14 = .ok (.aload_n 0, 1) := by decide +kernel
theorem dX5_earnedBy_15 : decode cX5_earnedBy 15 = .ok (.getfield 43, 3) := by decide +kernel
theorem dX5_earnedBy_18 : decode cX5_earnedBy 18 = .ok (.iload_n 2, 1) := by decide +kernel
theorem dX5_earnedBy_19 : decode cX5_earnedBy 19 = .ok (.iaload, 1) := by decide +kernel
theorem dX5_earnedBy_20 : decode cX5_earnedBy 20 = .ok (.isub, 1) := by decide +kernel
theorem dX5_earnedBy_21 : decode cX5_earnedBy 21 = .ok (.aload_n 0, 1) := by decide +kernel
theorem dX5_earnedBy_22 : decode cX5_earnedBy 22 = .ok (.getfield 49, 3) := by decide +kernel
theorem dX5_earnedBy_25 : decode cX5_earnedBy 25 = .ok (.iload_n 2, 1) := by decide +kernel
theorem dX5_earnedBy_26 : decode cX5_earnedBy 26 = .ok (.iaload, 1) := by decide +kernel
theorem dX5_earnedBy_27 : decode cX5_earnedBy 27 = .ok (.imul, 1) := by decide +kernel
theorem dX5_earnedBy_28 : decode cX5_earnedBy 28 = .ok (.ireturn, 1) := by decide +kernel
theorem dX5_earnedBy_29 : decode cX5_earnedBy 29 = .ok (.iconst 0, 1) := by decide +kernel
theorem dX5_earnedBy_30 : decode cX5_earnedBy 30 = .ok (.istore_n 3, 1) := by decide +kernel
theorem dX5_earnedBy_31 : decode cX5_earnedBy 31 = .ok (.iload_n 2, 1) := by decide +kernel
theorem dX5_earnedBy_32 : decode cX5_earnedBy 32 = .ok (.iconst 1, 1) := by decide +kernel
theorem dX5_earnedBy_33 : decode cX5_earnedBy 33 = .ok (.iadd, 1) := by decide +kernel
theorem dX5_earnedBy_34 : decode cX5_earnedBy 34 = .ok (.istore 4, 2) := by decide +kernel
theorem dX5_earnedBy_36 : decode cX5_earnedBy 36 = .ok (.iload 4, 2) := by decide +kernel
theorem dX5_earnedBy_38 : decode cX5_earnedBy 38 = .ok (.aload_n 1, 1) := by decide +kernel
theorem dX5_earnedBy_39 : decode cX5_earnedBy 39 = .ok (.getfield 67, 3) := by decide +kernel
theorem dX5_earnedBy_42 : decode cX5_earnedBy 42 = .ok (.if_icmp .ge 45, 3) := by decide +kernel
theorem dX5_earnedBy_45 : decode cX5_earnedBy 45 = .ok (.aload_n 1, 1) := by decide +kernel
theorem dX5_earnedBy_46 : decode cX5_earnedBy 46 = .ok (.getfield 106, 3) := by decide +kernel
theorem dX5_earnedBy_49 : decode cX5_earnedBy 49 = .ok (.iload 4, 2) := by decide +kernel
theorem dX5_earnedBy_51 : decode cX5_earnedBy 51 = .ok (.iaload, 1) := by decide +kernel
theorem dX5_earnedBy_52 : decode cX5_earnedBy 52 = .ok (.iload_n 2, 1) := by decide +kernel
theorem dX5_earnedBy_53 : decode cX5_earnedBy 53 = .ok (.if_icmp .ne 28, 3) := by decide +kernel
theorem dX5_earnedBy_56 : decode cX5_earnedBy 56 = .ok (.iload_n 3, 1) := by decide +kernel
theorem dX5_earnedBy_57 : decode cX5_earnedBy 57 = .ok (.aload_n 0, 1) := by decide +kernel
theorem dX5_earnedBy_58 : decode cX5_earnedBy 58 = .ok (.getfield 40, 3) := by decide +kernel
theorem dX5_earnedBy_61 : decode cX5_earnedBy 61 = .ok (.iload 4, 2) := by decide +kernel
theorem dX5_earnedBy_63 : decode cX5_earnedBy 63 = .ok (.iaload, 1) := by decide +kernel
theorem dX5_earnedBy_64 : decode cX5_earnedBy 64 = .ok (.aload_n 0, 1) := by decide +kernel
theorem dX5_earnedBy_65 : decode cX5_earnedBy 65 = .ok (.getfield 43, 3) := by decide +kernel
theorem dX5_earnedBy_68 : decode cX5_earnedBy 68 = .ok (.iload_n 2, 1) := by decide +kernel
theorem dX5_earnedBy_69 : decode cX5_earnedBy 69 = .ok (.iaload, 1) := by decide +kernel
theorem dX5_earnedBy_70 : decode cX5_earnedBy 70 = .ok (.isub, 1) := by decide +kernel
theorem dX5_earnedBy_71 : decode cX5_earnedBy 71 = .ok (.aload_n 0, 1) := by decide +kernel
theorem dX5_earnedBy_72 : decode cX5_earnedBy 72 = .ok (.getfield 49, 3) := by decide +kernel
theorem dX5_earnedBy_75 : decode cX5_earnedBy 75 = .ok (.iload 4, 2) := by decide +kernel
theorem dX5_earnedBy_77 : decode cX5_earnedBy 77 = .ok (.iaload, 1) := by decide +kernel
theorem dX5_earnedBy_78 : decode cX5_earnedBy 78 = .ok (.imul, 1) := by decide +kernel
theorem dX5_earnedBy_79 : decode cX5_earnedBy 79 = .ok (.iadd, 1) := by decide +kernel
theorem dX5_earnedBy_80 : decode cX5_earnedBy 80 = .ok (.istore_n 3, 1) := by decide +kernel
theorem dX5_earnedBy_81 : decode cX5_earnedBy 81 = .ok (.iinc 4 1, 3) := by decide +kernel
theorem dX5_earnedBy_84 : decode cX5_earnedBy 84 = .ok (.goto (-48), 3) := by decide +kernel
theorem dX5_earnedBy_87 : decode cX5_earnedBy 87 = .ok (.iload_n 3, 1) := by decide +kernel
theorem dX5_earnedBy_88 : decode cX5_earnedBy 88 = .ok (.ireturn, 1) := by decide +kernel
theorem dX5_allEarned_0 : decode cX5_allEarned 0 = .ok (.iconst 0, 1) := by decide +kernel
theorem dX5_allEarned_1 : decode cX5_allEarned 1 = .ok (.istore_n 2, 1) := by decide +kernel
theorem dX5_allEarned_2 : decode cX5_allEarned 2 = .ok (.iconst 0, 1) := by decide +kernel
theorem dX5_allEarned_3 : decode cX5_allEarned 3 = .ok (.istore_n 3, 1) := by decide +kernel
theorem dX5_allEarned_4 : decode cX5_allEarned 4 = .ok (.iload_n 3, 1) := by decide +kernel
theorem dX5_allEarned_5 : decode cX5_allEarned 5 = .ok (.aload_n 1, 1) := by decide +kernel
theorem dX5_allEarned_6 : decode cX5_allEarned 6 = .ok (.getfield 67, 3) := by decide +kernel
theorem dX5_allEarned_9 : decode cX5_allEarned 9 = .ok (.if_icmp .ge 18, 3) := by decide +kernel
theorem dX5_allEarned_12 : decode cX5_allEarned 12 = .ok (.iload_n 2, 1) := by decide +kernel
theorem dX5_allEarned_13 : decode cX5_allEarned 13 = .ok (.aload_n 0, 1) := by decide +kernel
theorem dX5_allEarned_14 : decode cX5_allEarned 14 = .ok (.getfield 52, 3) := by decide +kernel
theorem dX5_allEarned_17 : decode cX5_allEarned 17 = .ok (.iload_n 3, 1) := by decide +kernel
theorem dX5_allEarned_18 : decode cX5_allEarned 18 = .ok (.iaload, 1) := by decide +kernel
theorem dX5_allEarned_19 : decode cX5_allEarned 19 = .ok (.iadd, 1) := by decide +kernel
theorem dX5_allEarned_20 : decode cX5_allEarned 20 = .ok (.istore_n 2, 1) := by decide +kernel
theorem dX5_allEarned_21 : decode cX5_allEarned 21 = .ok (.iinc 3 1, 3) := by decide +kernel
theorem dX5_allEarned_24 : decode cX5_allEarned 24 = .ok (.goto (-20), 3) := by decide +kernel
theorem dX5_allEarned_27 : decode cX5_allEarned 27 = .ok (.iload_n 2, 1) := by decide +kernel
theorem dX5_allEarned_28 : decode cX5_allEarned 28 = .ok (.ireturn, 1) := by decide +kernel
theorem dX5_saved_0 : decode cX5_saved 0 = .ok (.iconst 0, 1) := by decide +kernel
theorem dX5_saved_1 : decode cX5_saved 1 = .ok (.istore_n 2, 1) := by decide +kernel
theorem dX5_saved_2 : decode cX5_saved 2 = .ok (.iconst 0, 1) := by decide +kernel
theorem dX5_saved_3 : decode cX5_saved 3 = .ok (.istore_n 3, 1) := by decide +kernel
theorem dX5_saved_4 : decode cX5_saved 4 = .ok (.iload_n 3, 1) := by decide +kernel
theorem dX5_saved_5 : decode cX5_saved 5 = .ok (.aload_n 1, 1) := by decide +kernel
theorem dX5_saved_6 : decode cX5_saved 6 = .ok (.getfield 67, 3) := by decide +kernel
theorem dX5_saved_9 : decode cX5_saved 9 = .ok (.if_icmp .ge 52, 3) := by decide +kernel
theorem dX5_saved_12 : decode cX5_saved 12 = .ok (.aload_n 1, 1) := by decide +kernel
theorem dX5_saved_13 : decode cX5_saved 13 = .ok (.iload_n 3, 1) := by decide +kernel
theorem dX5_saved_14 : decode cX5_saved 14 = .ok (.invokevirtual 109, 3) := by decide +kernel
theorem dX5_saved_17 : decode cX5_saved 17 = .ok (.ifCond .eq 38, 3) := by decide +kernel
theorem dX5_saved_20 : decode cX5_saved 20 = .ok (.aload_n 0, 1) := by decide +kernel
theorem dX5_saved_21 : decode cX5_saved 21 = .ok (.getfield 46, 3) := by decide +kernel
theorem dX5_saved_24 : decode cX5_saved 24 = .ok (.iload_n 3, 1) := by decide +kernel
theorem dX5_saved_25 : decode cX5_saved 25 = .ok (.iaload, 1) := by decide +kernel
theorem dX5_saved_26 : decode cX5_saved 26 = .ok (.iconst 1, 1) := by decide +kernel
theorem dX5_saved_27 : decode cX5_saved 27 = .ok (.iadd, 1) := by decide +kernel
theorem dX5_saved_28 : decode cX5_saved 28 = .ok (.istore 4, 2) := by decide +kernel
theorem dX5_saved_30 : decode cX5_saved 30 = .ok (.iload 4, 2) := by decide +kernel
theorem dX5_saved_32 : decode cX5_saved 32 = .ok (.bipush 41, 2) := by decide +kernel
theorem dX5_saved_34 : decode cX5_saved 34 = .ok (.if_icmp .gt 21, 3) := by decide +kernel
theorem dX5_saved_37 : decode cX5_saved 37 = .ok (.iload_n 2, 1) := by decide +kernel
theorem dX5_saved_38 : decode cX5_saved 38 = .ok (.aload_n 1, 1) := by decide +kernel
theorem dX5_saved_39 : decode cX5_saved 39 = .ok (.getfield 112, 3) := by decide +kernel
theorem dX5_saved_42 : decode cX5_saved 42 = .ok (.iload_n 3, 1) := by decide +kernel
theorem dX5_saved_43 : decode cX5_saved 43 = .ok (.aaload, 1) := by decide +kernel
theorem dX5_saved_44 : decode cX5_saved 44 = .ok (.iload 4, 2) := by decide +kernel
theorem dX5_saved_46 : decode cX5_saved 46 = .ok (.iaload, 1) := by decide +kernel
theorem dX5_saved_47 : decode cX5_saved 47 = .ok (.iadd, 1) := by decide +kernel
theorem dX5_saved_48 : decode cX5_saved 48 = .ok (.istore_n 2, 1) := by decide +kernel
theorem dX5_saved_49 : decode cX5_saved 49 = .ok (.iinc 4 1, 3) := by decide +kernel
theorem dX5_saved_52 : decode cX5_saved 52 = .ok (.goto (-22), 3) := by decide +kernel
theorem dX5_saved_55 : decode cX5_saved 55 = .ok (.iinc 3 1, 3) := by decide +kernel
theorem dX5_saved_58 : decode cX5_saved 58 = .ok (.goto (-54), 3) := by decide +kernel
theorem dX5_saved_61 : decode cX5_saved 61 = .ok (.iload_n 2, 1) := by decide +kernel
theorem dX5_saved_62 : decode cX5_saved 62 = .ok (.ireturn, 1) := by decide +kernel
theorem dX6_init_0 : decode cX6_init 0 = .ok (.aload_n 0, 1) := by decide +kernel
theorem dX6_init_1 : decode cX6_init 1 = .ok (.invokespecial 3, 3) := by decide +kernel
theorem dX6_init_4 : decode cX6_init 4 = .ok (.aload_n 0, 1) := by decide +kernel
theorem dX6_init_5 : decode cX6_init 5 = .ok (.sipush 300, 3) := by decide +kernel
theorem dX6_init_8 : decode cX6_init 8 = .ok (.newarray .int, 2) := by decide +kernel
theorem dX6_init_10 : decode cX6_init 10 = .ok (.putfield 9, 3) := by decide +kernel
theorem dX6_init_13 : decode cX6_init 13 = .ok (.aload_n 0, 1) := by decide +kernel
theorem dX6_init_14 : decode cX6_init 14 = .ok (.iconst 0, 1) := by decide +kernel
theorem dX6_init_15 : decode cX6_init 15 = .ok (.putfield 15, 3) := by decide +kernel
theorem dX6_init_18 : decode cX6_init 18 = .ok (.aload_n 0, 1) := by decide +kernel
theorem dX6_init_19 : decode cX6_init 19 = .ok (.iconst 0, 1) := by decide +kernel
theorem dX6_init_20 : decode cX6_init 20 = .ok (.putfield 19, 3) := by decide +kernel
theorem dX6_init_23 : decode cX6_init 23 = .ok (.aload_n 0, 1) := by decide +kernel
theorem dX6_init_24 : decode cX6_init 24 = .ok (.iconst (-1), 1) := by decide +kernel
theorem dX6_init_25 : decode cX6_init 25 = .ok (.putfield 22, 3) := by decide +kernel
theorem dX6_init_28 : decode cX6_init 28 = .ok (.return_, 1) := by decide +kernel
theorem dX6_bytesIn_0 : decode cX6_bytesIn 0 = .ok (.iconst 0, 1) := by decide +kernel
theorem dX6_bytesIn_1 : decode cX6_bytesIn 1 = .ok (.istore_n 1, 1) := by decide +kernel
theorem dX6_bytesIn_2 : decode cX6_bytesIn 2 = .ok (.bipush 24, 2) := by decide +kernel
theorem dX6_bytesIn_4 : decode cX6_bytesIn 4 = .ok (.istore_n 2, 1) := by decide +kernel
theorem dX6_bytesIn_5 : decode cX6_bytesIn 5 = .ok (.iload_n 2, 1) := by decide +kernel
theorem dX6_bytesIn_6 : decode cX6_bytesIn 6 = .ok (.ifCond .lt 22, 3) := by decide +kernel
theorem dX6_bytesIn_9 : decode cX6_bytesIn 9 = .ok (.iload_n 0, 1) := by decide +kernel
theorem dX6_bytesIn_10 : decode cX6_bytesIn 10 = .ok (.iload_n 2, 1) := by decide +kernel
theorem dX6_bytesIn_11 : decode cX6_bytesIn 11 = .ok (.ishr, 1) := by decide +kernel
theorem dX6_bytesIn_12 : decode cX6_bytesIn 12 = .ok (.sipush 255, 3) := by decide +kernel
theorem dX6_bytesIn_15 : decode cX6_bytesIn 15 = .ok (.iand, 1) := by decide +kernel
theorem dX6_bytesIn_16 : decode cX6_bytesIn 16 = .ok (.ifCond .eq 6, 3) := by decide +kernel
theorem dX6_bytesIn_19 : decode cX6_bytesIn 19 = .ok (.iinc 1 1, 3) := by decide +kernel
theorem dX6_bytesIn_22 : decode cX6_bytesIn 22 = .ok (.iinc 2 (-8), 3) := by decide +kernel
theorem dX6_bytesIn_25 : decode cX6_bytesIn 25 = .ok (.goto (-20), 3) := by decide +kernel
theorem dX6_bytesIn_28 : decode cX6_bytesIn 28 = .ok (.iload_n 1, 1) := by decide +kernel
theorem dX6_bytesIn_29 : decode cX6_bytesIn 29 = .ok (.ireturn, 1) := by decide +kernel
theorem dX6_put_0 : decode cX6_put 0 = .ok (.bipush 24, 2) := by decide +kernel
theorem dX6_put_2 : decode cX6_put 2 = .ok (.istore_n 2, 1) := by decide +kernel
theorem dX6_put_3 : decode cX6_put 3 = .ok (.iload_n 2, 1) := by decide +kernel
theorem dX6_put_4 : decode cX6_put 4 = .ok (.ifCond .lt 51, 3) := by decide +kernel
theorem dX6_put_7 : decode cX6_put 7 = .ok (.iload_n 1, 1) := by decide +kernel
theorem dX6_put_8 : decode cX6_put 8 = .ok (.iload_n 2, 1) := by decide +kernel
theorem dX6_put_9 : decode cX6_put 9 = .ok (.ishr, 1) := by decide +kernel
theorem dX6_put_10 : decode cX6_put 10 = .ok (.sipush 255, 3) := by decide +kernel
theorem dX6_put_13 : decode cX6_put 13 = .ok (.iand, 1) := by decide +kernel
theorem dX6_put_14 : decode cX6_put 14 = .ok (.istore_n 3, 1) := by decide +kernel
theorem dX6_put_15 : decode cX6_put 15 = .ok (.iload_n 3, 1) := by decide +kernel
theorem dX6_put_16 : decode cX6_put 16 = .ok (.ifCond .eq 33, 3) := by decide +kernel
theorem dX6_put_19 : decode cX6_put 19 = .ok (.aload_n 0, 1) := by decide +kernel
theorem dX6_put_20 : decode cX6_put 20 = .ok (.getfield 15, 3) := by decide +kernel
theorem dX6_put_23 : decode cX6_put 23 = .ok (.sipush 300, 3) := by decide +kernel
theorem dX6_put_26 : decode cX6_put 26 = .ok (.if_icmp .ge 23, 3) := by decide +kernel
theorem dX6_put_29 : decode cX6_put 29 = .ok (.aload_n 0, 1) := by decide +kernel
theorem dX6_put_30 : decode cX6_put 30 = .ok (.getfield 9, 3) := by decide +kernel
theorem dX6_put_33 : decode cX6_put 33 = .ok (.aload_n 0, 1) := by decide +kernel
theorem dX6_put_34 : decode cX6_put 34 = .ok (.getfield 15, 3) := by decide +kernel
theorem dX6_put_37 : decode cX6_put 37 = .ok (.iload_n 3, 1) := by decide +kernel
theorem dX6_put_38 : decode cX6_put 38 = .ok (.iastore, 1) := by decide +kernel
theorem dX6_put_39 : decode cX6_put 39 = .ok (.aload_n 0, 1) := by decide +kernel
theorem dX6_put_40 : decode cX6_put 40 = .ok (.dup, 1) := by decide +kernel
theorem dX6_put_41 : decode cX6_put 41 = .ok (.getfield 15, 3) := by decide +kernel
theorem dX6_put_44 : decode cX6_put 44 = .ok (.iconst 1, 1) := by decide +kernel
theorem dX6_put_45 : decode cX6_put 45 = .ok (.iadd, 1) := by decide +kernel
theorem dX6_put_46 : decode cX6_put 46 = .ok (.putfield 15, 3) := by decide +kernel
theorem dX6_put_49 : decode cX6_put 49 = .ok (.iinc 2 (-8), 3) := by decide +kernel
theorem dX6_put_52 : decode cX6_put 52 = .ok (.goto (-49), 3) := by decide +kernel
theorem dX6_put_55 : decode cX6_put 55 = .ok (.return_, 1) := by decide +kernel
theorem dX6_read_0 : decode cX6_read 0 = .ok (.aload_n 0, 1) := by decide +kernel
theorem dX6_read_1 : decode cX6_read 1 = .ok (.iconst 0, 1) := by decide +kernel
theorem dX6_read_2 : decode cX6_read 2 = .ok (.putfield 19, 3) := by decide +kernel
theorem dX6_read_5 : decode cX6_read 5 = .ok (.aload_n 0, 1) := by decide +kernel
theorem dX6_read_6 : decode cX6_read 6 = .ok (.iconst (-1), 1) := by decide +kernel
theorem dX6_read_7 : decode cX6_read 7 = .ok (.putfield 22, 3) := by decide +kernel
theorem dX6_read_10 : decode cX6_read 10 = .ok (.aload_n 1, 1) := by decide +kernel
theorem dX6_read_11 : decode cX6_read 11 = .ok (.invokevirtual 25, 3) := by decide +kernel
theorem dX6_read_14 : decode cX6_read 14 = .ok (.iconst 0, 1) := by decide +kernel
theorem dX6_read_15 : decode cX6_read 15 = .ok (.istore_n 2, 1) := by decide +kernel
theorem dX6_read_16 : decode cX6_read 16 = .ok (.iload_n 2, 1) := by decide +kernel
theorem dX6_read_17 : decode cX6_read 17 = .ok (.sipush 300, 3) := by decide +kernel
theorem dX6_read_20 : decode cX6_read 20 = .ok (.if_icmp .gt 80, 3) := by decide +kernel
theorem dX6_read_23 : decode cX6_read 23 = .ok (.aload_n 0, 1) := by decide +kernel
theorem dX6_read_24 : decode cX6_read 24 = .ok (.aload_n 1, 1) := by decide +kernel
theorem dX6_read_25 : decode cX6_read 25 = .ok (.iload_n 2, 1) := by decide +kernel
theorem dX6_read_26 : decode cX6_read 26 = .ok (.ifCond .ne 7, 3) := by decide +kernel
theorem dX6_read_29 : decode cX6_read 29 = .ok (.iconst 1, 1) := by decide +kernel
theorem dX6_read_30 : decode cX6_read 30 = .ok (.goto 4, 3) := by decide +kernel
theorem dX6_read_33 : decode cX6_read 33 = .ok (.iconst 0, 1) := by decide +kernel
theorem dX6_read_34 : decode cX6_read 34 = .ok (.invokevirtual 30, 3) := by decide +kernel
theorem dX6_read_37 : decode cX6_read 37 = .ok (.aload_n 0, 1) := by decide +kernel
theorem dX6_read_38 : decode cX6_read 38 = .ok (.invokevirtual 34, 3) := by decide +kernel
theorem dX6_read_41 : decode cX6_read 41 = .ok (.aload_n 0, 1) := by decide +kernel
theorem dX6_read_42 : decode cX6_read 42 = .ok (.getfield 22, 3) := by decide +kernel
theorem dX6_read_45 : decode cX6_read 45 = .ok (.iconst (-1), 1) := by decide +kernel
theorem dX6_read_46 : decode cX6_read 46 = .ok (.if_icmp .ne 14, 3) := by decide +kernel
theorem dX6_read_49 : decode cX6_read 49 = .ok (.aload_n 0, 1) := by decide +kernel
theorem dX6_read_50 : decode cX6_read 50 = .ok (.getfield 19, 3) := by decide +kernel
theorem dX6_read_53 : decode cX6_read 53 = .ok (.aload_n 0, 1) := by decide +kernel
theorem dX6_read_54 : decode cX6_read 54 = .ok (.getfield 15, 3) := by decide +kernel
theorem dX6_read_57 : decode cX6_read 57 = .ok (.if_icmp .lt 8, 3) := by decide +kernel
theorem dX6_read_60 : decode cX6_read 60 = .ok (.aload_n 0, 1) := by decide +kernel
theorem dX6_read_61 : decode cX6_read 61 = .ok (.getfield 22, 3) := by decide +kernel
theorem dX6_read_64 : decode cX6_read 64 = .ok (.ireturn, 1) := by decide +kernel
theorem dX6_read_65 : decode cX6_read 65 = .ok (.aload_n 0, 1) := by decide +kernel
theorem dX6_read_66 : decode cX6_read 66 = .ok (.getfield 9, 3) := by decide +kernel
theorem dX6_read_69 : decode cX6_read 69 = .ok (.aload_n 0, 1) := by decide +kernel
theorem dX6_read_70 : decode cX6_read 70 = .ok (.getfield 19, 3) := by decide +kernel
theorem dX6_read_73 : decode cX6_read 73 = .ok (.iaload, 1) := by decide +kernel
theorem dX6_read_74 : decode cX6_read 74 = .ok (.bipush 59, 2) := by decide +kernel
theorem dX6_read_76 : decode cX6_read 76 = .ok (.if_icmp .eq 8, 3) := by decide +kernel
theorem dX6_read_79 : decode cX6_read 79 = .ok (.aload_n 0, 1) := by decide +kernel
theorem dX6_read_80 : decode cX6_read 80 = .ok (.getfield 19, 3) := by decide +kernel
theorem dX6_read_83 : decode cX6_read 83 = .ok (.ireturn, 1) := by decide +kernel
theorem dX6_read_84 : decode cX6_read 84 = .ok (.aload_n 0, 1) := by decide +kernel
theorem dX6_read_85 : decode cX6_read 85 = .ok (.dup, 1) := by decide +kernel
theorem dX6_read_86 : decode cX6_read 86 = .ok (.getfield 19, 3) := by decide +kernel
theorem dX6_read_89 : decode cX6_read 89 = .ok (.iconst 1, 1) := by decide +kernel
theorem dX6_read_90 : decode cX6_read 90 = .ok (.iadd, 1) := by decide +kernel
theorem dX6_read_91 : decode cX6_read 91 = .ok (.putfield 19, 3) := by decide +kernel
theorem dX6_read_94 : decode cX6_read 94 = .ok (.iinc 2 1, 3) := by decide +kernel
theorem dX6_read_97 : decode cX6_read 97 = .ok (.goto (-81), 3) := by decide +kernel
theorem dX6_read_100 : decode cX6_read 100 = .ok (.aload_n 0, 1) := by decide +kernel
theorem dX6_read_101 : decode cX6_read 101 = .ok (.getfield 22, 3) := by decide +kernel
theorem dX6_read_104 : decode cX6_read 104 = .ok (.ireturn, 1) := by decide +kernel
theorem dX6_readStatement_0 : decode cX6_readStatement 0 = .ok (.aload_n 0, 1) := by decide +kernel
theorem dX6_readStatement_1 : decode cX6_readStatement 1 = .ok (.invokevirtual 34, 3) := by decide +kernel
theorem dX6_readStatement_4 : decode cX6_readStatement 4 = .ok (.aload_n 0, 1) := by decide +kernel
theorem dX6_readStatement_5 : decode cX6_readStatement 5 = .ok (.getfield 19, 3) := by decide +kernel
theorem dX6_readStatement_8 : decode cX6_readStatement 8 = .ok (.aload_n 0, 1) := by decide +kernel
theorem dX6_readStatement_9 : decode cX6_readStatement 9 = .ok (.getfield 15, 3) := by decide +kernel
theorem dX6_readStatement_12 : decode cX6_readStatement 12 = .ok (.if_icmp .lt 12, 3) := by decide +kernel
theorem dX6_readStatement_15 : decode cX6_readStatement 15 = .ok (.aload_n 0, 1) := by decide +kernel
theorem dX6_readStatement_16 : decode cX6_readStatement 16 = .ok (.aload_n 0, 1) := by decide +kernel
theorem dX6_readStatement_17 : decode cX6_readStatement 17 = .ok (.getfield 15, 3) := by decide +kernel
theorem dX6_readStatement_20 : decode cX6_readStatement 20 = .ok (.putfield 22, 3) := by decide +kernel
theorem dX6_readStatement_23 : decode cX6_readStatement 23 = .ok (.return_, 1) := by decide +kernel
theorem dX6_readStatement_24 : decode cX6_readStatement 24 = .ok (.aload_n 0, 1) := by decide +kernel
theorem dX6_readStatement_25 : decode cX6_readStatement 25 = .ok (.getfield 9, 3) := by decide +kernel
theorem dX6_readStatement_28 : decode cX6_readStatement 28 = .ok (.aload_n 0, 1) := by decide +kernel
theorem dX6_readStatement_29 : decode cX6_readStatement 29 = .ok (.getfield 19, 3) := by decide +kernel
theorem dX6_readStatement_32 : decode cX6_readStatement 32 = .ok (.iaload, 1) := by decide +kernel
theorem dX6_readStatement_33 : decode cX6_readStatement 33 = .ok (.istore_n 3, 1) := by decide +kernel
theorem dX6_readStatement_34 : decode cX6_readStatement 34 = .ok (.iload_n 2, 1) := by decide +kernel
theorem dX6_readStatement_35 : decode cX6_readStatement 35 = .ok (.iload_n 3, 1) := by decide +kernel
theorem dX6_readStatement_36 : decode cX6_readStatement 36 = .ok (.bipush 110, 2) := by decide +kernel
theorem dX6_readStatement_38 : decode cX6_readStatement 38 = .ok (.if_icmp .ne 7, 3) := by decide +kernel
theorem dX6_readStatement_41 : decode cX6_readStatement 41 = .ok (.iconst 1, 1) := by decide +kernel
theorem dX6_readStatement_42 : decode cX6_readStatement 42 = .ok (.goto 4, 3) := by decide +kernel
theorem dX6_readStatement_45 : decode cX6_readStatement 45 = .ok (.iconst 0, 1) := by decide +kernel
theorem dX6_readStatement_46 : decode cX6_readStatement 46 = .ok (.if_icmp .eq 12, 3) := by decide +kernel
theorem dX6_readStatement_49 : decode cX6_readStatement 49 = .ok (.aload_n 0, 1) := by decide +kernel
theorem dX6_readStatement_50 : decode cX6_readStatement 50 = .ok (.aload_n 0, 1) := by decide +kernel
theorem dX6_readStatement_51 : decode cX6_readStatement 51 = .ok (.getfield 19, 3) := by decide +kernel
theorem dX6_readStatement_54 : decode cX6_readStatement 54 = .ok (.putfield 22, 3) := by decide +kernel
theorem dX6_readStatement_57 : decode cX6_readStatement 57 = .ok (.return_, 1) := by decide +kernel
theorem dX6_readStatement_58 : decode cX6_readStatement 58 = .ok (.iload_n 3, 1) := by decide +kernel
theorem dX6_readStatement_59 : decode cX6_readStatement 59 = .ok (.lookupswitch 125 #[(98, 87), (99, 71), (101, 109), (110, 49), (119, 103)], 49) := by decide +kernel
theorem dX6_readStatement_108 : decode cX6_readStatement 108 = .ok (.aload_n 0, 1) := by decide +kernel
theorem dX6_readStatement_109 : decode cX6_readStatement 109 = .ok (.dup, 1) := by decide +kernel
theorem dX6_readStatement_110 : decode cX6_readStatement 110 = .ok (.getfield 19, 3) := by decide +kernel
theorem dX6_readStatement_113 : decode cX6_readStatement 113 = .ok (.iconst 1, 1) := by decide +kernel
theorem dX6_readStatement_114 : decode cX6_readStatement 114 = .ok (.iadd, 1) := by decide +kernel
theorem dX6_readStatement_115 : decode cX6_readStatement 115 = .ok (.putfield 19, 3) := by decide +kernel
theorem dX6_readStatement_118 : decode cX6_readStatement 118 = .ok (.aload_n 1, 1) := by decide +kernel
theorem dX6_readStatement_119 : decode cX6_readStatement 119 = .ok (.aload_n 0, 1) := by decide +kernel
theorem dX6_readStatement_120 : decode cX6_readStatement 120 = .ok (.iconst 1, 1) := by decide +kernel
theorem dX6_readStatement_121 : decode cX6_readStatement 121 = .ok (.bipush 8, 2) := by decide +kernel
theorem dX6_readStatement_123 : decode cX6_readStatement 123 = .ok (.invokevirtual 37, 3) := by decide +kernel
theorem dX6_readStatement_126 : decode cX6_readStatement 126 = .ok (.putfield 41, 3) := by decide +kernel
theorem dX6_readStatement_129 : decode cX6_readStatement 129 = .ok (.return_, 1) := by decide +kernel
theorem dX6_readStatement_130 : decode cX6_readStatement 130 = .ok (.aload_n 0, 1) := by decide +kernel
theorem dX6_readStatement_131 : decode cX6_readStatement 131 = .ok (.dup, 1) := by decide +kernel
theorem dX6_readStatement_132 : decode cX6_readStatement 132 = .ok (.getfield 19, 3) := by decide +kernel
theorem dX6_readStatement_135 : decode cX6_readStatement 135 = .ok (.iconst 1, 1) := by decide +kernel
theorem dX6_readStatement_136 : decode cX6_readStatement 136 = .ok (.iadd, 1) := by decide +kernel
theorem dX6_readStatement_137 : decode cX6_readStatement 137 = .ok (.putfield 19, 3) := by decide +kernel
theorem dX6_readStatement_140 : decode cX6_readStatement 140 = .ok (.aload_n 0, 1) := by decide +kernel
theorem dX6_readStatement_141 : decode cX6_readStatement 141 = .ok (.aload_n 1, 1) := by decide +kernel
theorem dX6_readStatement_142 : decode cX6_readStatement 142 = .ok (.invokevirtual 44, 3) := by decide +kernel
theorem dX6_readStatement_145 : decode cX6_readStatement 145 = .ok (.return_, 1) := by decide +kernel
theorem dX6_readStatement_146 : decode cX6_readStatement 146 = .ok (.aload_n 0, 1) := by decide +kernel
theorem dX6_readStatement_147 : decode cX6_readStatement 147 = .ok (.dup, 1) := by decide +kernel
theorem dX6_readStatement_148 : decode cX6_readStatement 148 = .ok (.getfield 19, 3) := by decide +kernel
theorem dX6_readStatement_151 : decode cX6_readStatement 151 = .ok (.iconst 1, 1) := by decide +kernel
theorem dX6_readStatement_152 : decode cX6_readStatement 152 = .ok (.iadd, 1) := by decide +kernel
theorem dX6_readStatement_153 : decode cX6_readStatement 153 = .ok (.putfield 19, 3) := by decide +kernel
theorem dX6_readStatement_156 : decode cX6_readStatement 156 = .ok (.aload_n 0, 1) := by decide +kernel
theorem dX6_readStatement_157 : decode cX6_readStatement 157 = .ok (.aload_n 1, 1) := by decide +kernel
theorem dX6_readStatement_158 : decode cX6_readStatement 158 = .ok (.invokevirtual 48, 3) := by decide +kernel
theorem dX6_readStatement_161 : decode cX6_readStatement 161 = .ok (.return_, 1) := by decide +kernel
theorem dX6_readStatement_162 : decode cX6_readStatement 162 = .ok (.aload_n 0, 1) := by decide +kernel
theorem dX6_readStatement_163 : decode cX6_readStatement 163 = .ok (.aload_n 1, 1) := by decide +kernel
theorem dX6_readStatement_164 : decode cX6_readStatement 164 = .ok (.invokevirtual 51, 3) := by decide +kernel
theorem dX6_readStatement_167 : decode cX6_readStatement 167 = .ok (.return_, 1) := by decide +kernel
theorem dX6_readStatement_168 : decode cX6_readStatement 168 = .ok (.aload_n 0, 1) := by decide +kernel
theorem dX6_readStatement_169 : decode cX6_readStatement 169 = .ok (.dup, 1) := by decide +kernel
theorem dX6_readStatement_170 : decode cX6_readStatement 170 = .ok (.getfield 19, 3) := by decide +kernel
theorem dX6_readStatement_173 : decode cX6_readStatement 173 = .ok (.iconst 1, 1) := by decide +kernel
theorem dX6_readStatement_174 : decode cX6_readStatement 174 = .ok (.iadd, 1) := by decide +kernel
theorem dX6_readStatement_175 : decode cX6_readStatement 175 = .ok (.putfield 19, 3) := by decide +kernel
theorem dX6_readStatement_178 : decode cX6_readStatement 178 = .ok (.aload_n 0, 1) := by decide +kernel
theorem dX6_readStatement_179 : decode cX6_readStatement 179 = .ok (.aload_n 1, 1) := by decide +kernel
theorem dX6_readStatement_180 : decode cX6_readStatement 180 = .ok (.invokevirtual 54, 3) := by decide +kernel
theorem dX6_readStatement_183 : decode cX6_readStatement 183 = .ok (.return_, 1) := by decide +kernel
theorem dX6_readStatement_184 : decode cX6_readStatement 184 = .ok (.aload_n 0, 1) := by decide +kernel
theorem dX6_readStatement_185 : decode cX6_readStatement 185 = .ok (.aload_n 0, 1) := by decide +kernel
theorem dX6_readStatement_186 : decode cX6_readStatement 186 = .ok (.getfield 19, 3) := by decide +kernel
theorem dX6_readStatement_189 : decode cX6_readStatement 189 = .ok (.putfield 22, 3) := by decide +kernel
theorem dX6_readStatement_192 : decode cX6_readStatement 192 = .ok (.return_, 1) := by decide +kernel
theorem dX6_readCost_0 : decode cX6_readCost 0 = .ok (.aload_n 0, 1) := by decide +kernel
theorem dX6_readCost_1 : decode cX6_readCost 1 = .ok (.iconst 0, 1) := by decide +kernel
theorem dX6_readCost_2 : decode cX6_readCost 2 = .ok (.aload_n 1, 1) := by decide +kernel
theorem dX6_readCost_3 : decode cX6_readCost 3 = .ok (.getfield 41, 3) := by decide +kernel
theorem dX6_readCost_6 : decode cX6_readCost 6 = .ok (.iconst 1, 1) := by decide +kernel
theorem dX6_readCost_7 : decode cX6_readCost 7 = .ok (.isub, 1) := by decide +kernel
theorem dX6_readCost_8 : decode cX6_readCost 8 = .ok (.invokevirtual 37, 3) := by decide +kernel
theorem dX6_readCost_11 : decode cX6_readCost 11 = .ok (.istore_n 2, 1) := by decide +kernel
theorem dX6_readCost_12 : decode cX6_readCost 12 = .ok (.aload_n 0, 1) := by decide +kernel
theorem dX6_readCost_13 : decode cX6_readCost 13 = .ok (.iconst 0, 1) := by decide +kernel
theorem dX6_readCost_14 : decode cX6_readCost 14 = .ok (.bipush 30, 2) := by decide +kernel
theorem dX6_readCost_16 : decode cX6_readCost 16 = .ok (.invokevirtual 37, 3) := by decide +kernel
theorem dX6_readCost_19 : decode cX6_readCost 19 = .ok (.istore_n 3, 1) := by decide +kernel
theorem dX6_readCost_20 : decode cX6_readCost 20 = .ok (.aload_n 0, 1) := by decide +kernel
theorem dX6_readCost_21 : decode cX6_readCost 21 = .ok (.getfield 22, 3) := by decide +kernel
theorem dX6_readCost_24 : decode cX6_readCost 24 = .ok (.iconst (-1), 1) := by decide +kernel
theorem dX6_readCost_25 : decode cX6_readCost 25 = .ok (.if_icmp .ne 10, 3) := by decide +kernel
theorem dX6_readCost_28 : decode cX6_readCost 28 = .ok (.aload_n 1, 1) := by decide +kernel
theorem dX6_readCost_29 : decode cX6_readCost 29 = .ok (.getfield 57, 3) := by decide +kernel
theorem dX6_readCost_32 : decode cX6_readCost 32 = .ok (.iload_n 2, 1) := by decide +kernel
theorem dX6_readCost_33 : decode cX6_readCost 33 = .ok (.iload_n 3, 1) := by decide +kernel
theorem dX6_readCost_34 : decode cX6_readCost 34 = .ok (.iastore, 1) := by decide +kernel
theorem dX6_readCost_35 : decode cX6_readCost 35 = .ok (.return_, 1) := by decide +kernel
theorem dX6_readSource_0 : decode cX6_readSource 0 = .ok (.aload_n 0, 1) := by decide +kernel
theorem dX6_readSource_1 : decode cX6_readSource 1 = .ok (.iconst 0, 1) := by decide +kernel
theorem dX6_readSource_2 : decode cX6_readSource 2 = .ok (.aload_n 1, 1) := by decide +kernel
theorem dX6_readSource_3 : decode cX6_readSource 3 = .ok (.getfield 41, 3) := by decide +kernel
theorem dX6_readSource_6 : decode cX6_readSource 6 = .ok (.iconst 1, 1) := by decide +kernel
theorem dX6_readSource_7 : decode cX6_readSource 7 = .ok (.isub, 1) := by decide +kernel
theorem dX6_readSource_8 : decode cX6_readSource 8 = .ok (.invokevirtual 37, 3) := by decide +kernel
theorem dX6_readSource_11 : decode cX6_readSource 11 = .ok (.istore_n 2, 1) := by decide +kernel
theorem dX6_readSource_12 : decode cX6_readSource 12 = .ok (.aload_n 0, 1) := by decide +kernel
theorem dX6_readSource_13 : decode cX6_readSource 13 = .ok (.iload_n 2, 1) := by decide +kernel
theorem dX6_readSource_14 : decode cX6_readSource 14 = .ok (.iconst 1, 1) := by decide +kernel
theorem dX6_readSource_15 : decode cX6_readSource 15 = .ok (.iadd, 1) := by decide +kernel
theorem dX6_readSource_16 : decode cX6_readSource 16 = .ok (.aload_n 1, 1) := by decide +kernel
theorem dX6_readSource_17 : decode cX6_readSource 17 = .ok (.getfield 41, 3) := by decide +kernel
theorem dX6_readSource_20 : decode cX6_readSource 20 = .ok (.iconst 1, 1) := by decide +kernel
theorem dX6_readSource_21 : decode cX6_readSource 21 = .ok (.isub, 1) := by decide +kernel
theorem dX6_readSource_22 : decode cX6_readSource 22 = .ok (.invokevirtual 37, 3) := by decide +kernel
theorem dX6_readSource_25 : decode cX6_readSource 25 = .ok (.istore_n 3, 1) := by decide +kernel
theorem dX6_readSource_26 : decode cX6_readSource 26 = .ok (.aload_n 0, 1) := by decide +kernel
theorem dX6_readSource_27 : decode cX6_readSource 27 = .ok (.getfield 22, 3) := by decide +kernel
theorem dX6_readSource_30 : decode cX6_readSource 30 = .ok (.iconst (-1), 1) := by decide +kernel
theorem dX6_readSource_31 : decode cX6_readSource 31 = .ok (.if_icmp .eq 4, 3) := by decide +kernel
theorem dX6_readSource_34 : decode cX6_readSource 34 = .ok (.return_, 1) := by decide +kernel
theorem dX6_readSource_35 : decode cX6_readSource 35 = .ok (.aload_n 1, 1) := by decide +kernel
theorem dX6_readSource_36 : decode cX6_readSource 36 = .ok (.getfield 60, 3) := by decide +kernel
theorem dX6_readSource_39 : decode cX6_readSource 39 = .ok (.iload_n 3, 1) := by decide +kernel
theorem dX6_readSource_40 : decode cX6_readSource 40 = .ok (.iaload, 1) := by decide +kernel
theorem dX6_readSource_41 : decode cX6_readSource 41 = .ok (.iconst (-1), 1) := by decide +kernel
theorem dX6_readSource_42 : decode cX6_readSource 42 = .ok (.if_icmp .eq 14, 3) := by decide +kernel
theorem dX6_readSource_45 : decode cX6_readSource 45 = .ok (.aload_n 0, 1) := by decide +kernel
theorem dX6_readSource_46 : decode cX6_readSource 46 = .ok (.aload_n 0, 1) := by decide +kernel
theorem dX6_readSource_47 : decode cX6_readSource 47 = .ok (.getfield 19, 3) := by decide +kernel
theorem dX6_readSource_50 : decode cX6_readSource 50 = .ok (.iconst 1, 1) := by decide +kernel
theorem dX6_readSource_51 : decode cX6_readSource 51 = .ok (.isub, 1) := by decide +kernel
theorem dX6_readSource_52 : decode cX6_readSource 52 = .ok (.putfield 22, 3) := by decide +kernel
theorem dX6_readSource_55 : decode cX6_readSource 55 = .ok (.return_, 1) := by decide +kernel
theorem dX6_readSource_56 : decode cX6_readSource 56 = .ok (.aload_n 1, 1) := by decide +kernel
theorem dX6_readSource_57 : decode cX6_readSource 57 = .ok (.iload_n 2, 1) := by decide +kernel
theorem dX6_readSource_58 : decode cX6_readSource 58 = .ok (.iload_n 3, 1) := by decide +kernel
theorem dX6_readSource_59 : decode cX6_readSource 59 = .ok (.invokevirtual 63, 3) := by decide +kernel
theorem dX6_readSource_62 : decode cX6_readSource 62 = .ok (.return_, 1) := by decide +kernel
theorem dX6_readLot_0 : decode cX6_readLot 0 = .ok (.aload_n 1, 1) := by decide +kernel
theorem dX6_readLot_1 : decode cX6_readLot 1 = .ok (.getfield 67, 3) := by decide +kernel
theorem dX6_readLot_4 : decode cX6_readLot 4 = .ok (.bipush 20, 2) := by decide +kernel
theorem dX6_readLot_6 : decode cX6_readLot 6 = .ok (.if_icmp .lt 12, 3) := by decide +kernel
theorem dX6_readLot_9 : decode cX6_readLot 9 = .ok (.aload_n 0, 1) := by decide +kernel
theorem dX6_readLot_10 : decode cX6_readLot 10 = .ok (.aload_n 0, 1) := by decide +kernel
theorem dX6_readLot_11 : decode cX6_readLot 11 = .ok (.getfield 19, 3) := by decide +kernel
theorem dX6_readLot_14 : decode cX6_readLot 14 = .ok (.putfield 22, 3) := by decide +kernel
theorem dX6_readLot_17 : decode cX6_readLot 17 = .ok (.return_, 1) := by decide +kernel
theorem dX6_readLot_18 : decode cX6_readLot 18 = .ok (.aload_n 0, 1) := by decide +kernel
theorem dX6_readLot_19 : decode cX6_readLot 19 = .ok (.dup, 1) := by decide +kernel
theorem dX6_readLot_20 : decode cX6_readLot 20 = .ok (.getfield 19, 3) := by decide +kernel
theorem dX6_readLot_23 : decode cX6_readLot 23 = .ok (.iconst 1, 1) := by decide +kernel
theorem dX6_readLot_24 : decode cX6_readLot 24 = .ok (.iadd, 1) := by decide +kernel
theorem dX6_readLot_25 : decode cX6_readLot 25 = .ok (.putfield 19, 3) := by decide +kernel
theorem dX6_readLot_28 : decode cX6_readLot 28 = .ok (.aload_n 0, 1) := by decide +kernel
theorem dX6_readLot_29 : decode cX6_readLot 29 = .ok (.iconst 0, 1) := by decide +kernel
theorem dX6_readLot_30 : decode cX6_readLot 30 = .ok (.aload_n 1, 1) := by decide +kernel
theorem dX6_readLot_31 : decode cX6_readLot 31 = .ok (.getfield 41, 3) := by decide +kernel
theorem dX6_readLot_34 : decode cX6_readLot 34 = .ok (.iconst 1, 1) := by decide +kernel
theorem dX6_readLot_35 : decode cX6_readLot 35 = .ok (.isub, 1) := by decide +kernel
theorem dX6_readLot_36 : decode cX6_readLot 36 = .ok (.invokevirtual 37, 3) := by decide +kernel
theorem dX6_readLot_39 : decode cX6_readLot 39 = .ok (.istore_n 2, 1) := by decide +kernel
theorem dX6_readLot_40 : decode cX6_readLot 40 = .ok (.aload_n 0, 1) := by decide +kernel
theorem dX6_readLot_41 : decode cX6_readLot 41 = .ok (.iconst 1, 1) := by decide +kernel
theorem dX6_readLot_42 : decode cX6_readLot 42 = .ok (.bipush 40, 2) := by decide +kernel
theorem dX6_readLot_44 : decode cX6_readLot 44 = .ok (.invokevirtual 37, 3) := by decide +kernel
theorem dX6_readLot_47 : decode cX6_readLot 47 = .ok (.istore_n 3, 1) := by decide +kernel
theorem dX6_readLot_48 : decode cX6_readLot 48 = .ok (.aload_n 0, 1) := by decide +kernel
theorem dX6_readLot_49 : decode cX6_readLot 49 = .ok (.iconst 1, 1) := by decide +kernel
theorem dX6_readLot_50 : decode cX6_readLot 50 = .ok (.bipush 30, 2) := by decide +kernel
theorem dX6_readLot_52 : decode cX6_readLot 52 = .ok (.invokevirtual 37, 3) := by decide +kernel
theorem dX6_readLot_55 : decode cX6_readLot 55 = .ok (.istore 4, 2) := by decide +kernel
theorem dX6_readLot_57 : decode cX6_readLot 57 = .ok (.aload_n 0, 1) := by decide +kernel
theorem dX6_readLot_58 : decode cX6_readLot 58 = .ok (.getfield 22, 3) := by decide +kernel
theorem dX6_readLot_61 : decode cX6_readLot 61 = .ok (.iconst (-1), 1) := by decide +kernel
theorem dX6_readLot_62 : decode cX6_readLot 62 = .ok (.if_icmp .ne 11, 3) := by decide +kernel
theorem dX6_readLot_65 : decode cX6_readLot 65 = .ok (.aload_n 1, 1) := by decide +kernel
theorem dX6_readLot_66 : decode cX6_readLot 66 = .ok (.iload_n 2, 1) := by decide +kernel
theorem dX6_readLot_67 : decode cX6_readLot 67 = .ok (.iload_n 3, 1) := by decide +kernel
theorem dX6_readLot_68 : decode cX6_readLot 68 = .ok (.iload 4, 2) := by decide +kernel
theorem dX6_readLot_70 : decode cX6_readLot 70 = .ok (.invokevirtual 70, 3) := by decide +kernel
theorem dX6_readLot_73 : decode cX6_readLot 73 = .ok (.return_, 1) := by decide +kernel
theorem dX6_readElse_0 : decode cX6_readElse 0 = .ok (.aload_n 0, 1) := by decide +kernel
theorem dX6_readElse_1 : decode cX6_readElse 1 = .ok (.iconst 0, 1) := by decide +kernel
theorem dX6_readElse_2 : decode cX6_readElse 2 = .ok (.aload_n 1, 1) := by decide +kernel
theorem dX6_readElse_3 : decode cX6_readElse 3 = .ok (.getfield 41, 3) := by decide +kernel
theorem dX6_readElse_6 : decode cX6_readElse 6 = .ok (.iconst 1, 1) := by decide +kernel
theorem dX6_readElse_7 : decode cX6_readElse 7 = .ok (.isub, 1) := by decide +kernel
theorem dX6_readElse_8 : decode cX6_readElse 8 = .ok (.invokevirtual 37, 3) := by decide +kernel
theorem dX6_readElse_11 : decode cX6_readElse 11 = .ok (.istore_n 2, 1) := by decide +kernel
theorem dX6_readElse_12 : decode cX6_readElse 12 = .ok (.aload_n 0, 1) := by decide +kernel
theorem dX6_readElse_13 : decode cX6_readElse 13 = .ok (.iconst 0, 1) := by decide +kernel
theorem dX6_readElse_14 : decode cX6_readElse 14 = .ok (.bipush 99, 2) := by decide +kernel
theorem dX6_readElse_16 : decode cX6_readElse 16 = .ok (.invokevirtual 37, 3) := by decide +kernel
theorem dX6_readElse_19 : decode cX6_readElse 19 = .ok (.istore_n 3, 1) := by decide +kernel
theorem dX6_readElse_20 : decode cX6_readElse 20 = .ok (.aload_n 0, 1) := by decide +kernel
theorem dX6_readElse_21 : decode cX6_readElse 21 = .ok (.getfield 22, 3) := by decide +kernel
theorem dX6_readElse_24 : decode cX6_readElse 24 = .ok (.iconst (-1), 1) := by decide +kernel
theorem dX6_readElse_25 : decode cX6_readElse 25 = .ok (.if_icmp .ne 10, 3) := by decide +kernel
theorem dX6_readElse_28 : decode cX6_readElse 28 = .ok (.aload_n 1, 1) := by decide +kernel
theorem dX6_readElse_29 : decode cX6_readElse 29 = .ok (.getfield 74, 3) := by decide +kernel
theorem dX6_readElse_32 : decode cX6_readElse 32 = .ok (.iload_n 2, 1) := by decide +kernel
theorem dX6_readElse_33 : decode cX6_readElse 33 = .ok (.iload_n 3, 1) := by decide +kernel
theorem dX6_readElse_34 : decode cX6_readElse 34 = .ok (.iastore, 1) := by decide +kernel
theorem dX6_readElse_35 : decode cX6_readElse 35 = .ok (.return_, 1) := by decide +kernel
theorem dX6_readNumber_0 : decode cX6_readNumber 0 = .ok (.aload_n 0, 1) := by decide +kernel
theorem dX6_readNumber_1 : decode cX6_readNumber 1 = .ok (.getfield 22, 3) := by decide +kernel
theorem dX6_readNumber_4 : decode cX6_readNumber 4 = .ok (.iconst (-1), 1) := by decide +kernel
theorem dX6_readNumber_5 : decode cX6_readNumber 5 = .ok (.if_icmp .eq 5, 3) := by decide +kernel
theorem dX6_readNumber_8 : decode cX6_readNumber 8 = .ok (.iconst 0, 1) := by decide +kernel
theorem dX6_readNumber_9 : decode cX6_readNumber 9 = .ok (.ireturn, 1) := by decide +kernel
theorem dX6_readNumber_10 : decode cX6_readNumber 10 = .ok (.aload_n 0, 1) := by decide +kernel
theorem dX6_readNumber_11 : decode cX6_readNumber 11 = .ok (.getfield 19, 3) := by decide +kernel
theorem dX6_readNumber_14 : decode cX6_readNumber 14 = .ok (.aload_n 0, 1) := by decide +kernel
theorem dX6_readNumber_15 : decode cX6_readNumber 15 = .ok (.getfield 15, 3) := by decide +kernel
theorem dX6_readNumber_18 : decode cX6_readNumber 18 = .ok (.if_icmp .ge 27, 3) := by decide +kernel
theorem dX6_readNumber_21 : decode cX6_readNumber 21 = .ok (.aload_n 0, 1) := by decide +kernel
theorem dX6_readNumber_22 : decode cX6_readNumber 22 = .ok (.getfield 9, 3) := by decide +kernel
theorem dX6_readNumber_25 : decode cX6_readNumber 25 = .ok (.aload_n 0, 1) := by decide +kernel
theorem dX6_readNumber_26 : decode cX6_readNumber 26 = .ok (.getfield 19, 3) := by decide +kernel
theorem dX6_readNumber_29 : decode cX6_readNumber 29 = .ok (.iaload, 1) := by decide +kernel
theorem dX6_readNumber_30 : decode cX6_readNumber 30 = .ok (.bipush 32, 2) := by decide +kernel
theorem dX6_readNumber_32 : decode cX6_readNumber 32 = .ok (.if_icmp .eq 13, 3) := by decide +kernel
theorem dX6_readNumber_35 : decode cX6_readNumber 35 = .ok (.aload_n 0, 1) := by decide +kernel
theorem dX6_readNumber_36 : decode cX6_readNumber 36 = .ok (.aload_n 0, 1) := by decide +kernel
theorem dX6_readNumber_37 : decode cX6_readNumber 37 = .ok (.getfield 19, 3) := by decide +kernel
theorem dX6_readNumber_40 : decode cX6_readNumber 40 = .ok (.putfield 22, 3) := by decide +kernel
theorem dX6_readNumber_43 : decode cX6_readNumber 43 = .ok (.iconst 0, 1) := by decide +kernel
theorem dX6_readNumber_44 : decode cX6_readNumber 44 = .ok (.ireturn, 1) := by decide +kernel
theorem dX6_readNumber_45 : decode cX6_readNumber 45 = .ok (.aload_n 0, 1) := by decide +kernel
theorem dX6_readNumber_46 : decode cX6_readNumber 46 = .ok (.invokevirtual 34, 3) := by decide +kernel
theorem dX6_readNumber_49 : decode cX6_readNumber 49 = .ok (.aload_n 0, 1) := by decide +kernel
theorem dX6_readNumber_50 : decode cX6_readNumber 50 = .ok (.invokevirtual 77, 3) := by decide +kernel
theorem dX6_readNumber_53 : decode cX6_readNumber 53 = .ok (.ifCond .ne 13, 3) := by decide +kernel
theorem dX6_readNumber_56 : decode cX6_readNumber 56 = .ok (.aload_n 0, 1) := by decide +kernel
theorem dX6_readNumber_57 : decode cX6_readNumber 57 = .ok (.aload_n 0, 1) := by decide +kernel
theorem dX6_readNumber_58 : decode cX6_readNumber 58 = .ok (.getfield 19, 3) := by decide +kernel
theorem dX6_readNumber_61 : decode cX6_readNumber 61 = .ok (.putfield 22, 3) := by decide +kernel
theorem dX6_readNumber_64 : decode cX6_readNumber 64 = .ok (.iconst 0, 1) := by decide +kernel
theorem dX6_readNumber_65 : decode cX6_readNumber 65 = .ok (.ireturn, 1) := by decide +kernel
theorem dX6_readNumber_66 : decode cX6_readNumber 66 = .ok (.aload_n 0, 1) := by decide +kernel
theorem dX6_readNumber_67 : decode cX6_readNumber 67 = .ok (.getfield 9, 3) := by decide +kernel
theorem dX6_readNumber_70 : decode cX6_readNumber 70 = .ok (.aload_n 0, 1) := by decide +kernel
theorem dX6_readNumber_71 : decode cX6_readNumber 71 = .ok (.getfield 19, 3) := by decide +kernel
theorem dX6_readNumber_74 : decode cX6_readNumber 74 = .ok (.iaload, 1) := by decide +kernel
theorem dX6_readNumber_75 : decode cX6_readNumber 75 = .ok (.bipush 48, 2) := by decide +kernel
theorem dX6_readNumber_77 : decode cX6_readNumber 77 = .ok (.isub, 1) := by decide +kernel
theorem dX6_readNumber_78 : decode cX6_readNumber 78 = .ok (.istore_n 3, 1) := by decide +kernel
theorem dX6_readNumber_79 : decode cX6_readNumber 79 = .ok (.aload_n 0, 1) := by decide +kernel
theorem dX6_readNumber_80 : decode cX6_readNumber 80 = .ok (.dup, 1) := by decide +kernel
theorem dX6_readNumber_81 : decode cX6_readNumber 81 = .ok (.getfield 19, 3) := by decide +kernel
theorem dX6_readNumber_84 : decode cX6_readNumber 84 = .ok (.iconst 1, 1) := by decide +kernel
theorem dX6_readNumber_85 : decode cX6_readNumber 85 = .ok (.iadd, 1) := by decide +kernel
theorem dX6_readNumber_86 : decode cX6_readNumber 86 = .ok (.putfield 19, 3) := by decide +kernel
theorem dX6_readNumber_89 : decode cX6_readNumber 89 = .ok (.aload_n 0, 1) := by decide +kernel
theorem dX6_readNumber_90 : decode cX6_readNumber 90 = .ok (.invokevirtual 77, 3) := by decide +kernel
theorem dX6_readNumber_93 : decode cX6_readNumber 93 = .ok (.ifCond .eq 31, 3) := by decide +kernel
theorem dX6_readNumber_96 : decode cX6_readNumber 96 = .ok (.iload_n 3, 1) := by decide +kernel
theorem dX6_readNumber_97 : decode cX6_readNumber 97 = .ok (.bipush 10, 2) := by decide +kernel
theorem dX6_readNumber_99 : decode cX6_readNumber 99 = .ok (.imul, 1) := by decide +kernel
theorem dX6_readNumber_100 : decode cX6_readNumber 100 = .ok (.aload_n 0, 1) := by decide +kernel
theorem dX6_readNumber_101 : decode cX6_readNumber 101 = .ok (.getfield 9, 3) := by decide +kernel
theorem dX6_readNumber_104 : decode cX6_readNumber 104 = .ok (.aload_n 0, 1) := by decide +kernel
theorem dX6_readNumber_105 : decode cX6_readNumber 105 = .ok (.getfield 19, 3) := by decide +kernel
theorem dX6_readNumber_108 : decode cX6_readNumber 108 = .ok (.iaload, 1) := by decide +kernel
theorem dX6_readNumber_109 : decode cX6_readNumber 109 = .ok (.iadd, 1) := by decide +kernel
theorem dX6_readNumber_110 : decode cX6_readNumber 110 = .ok (.bipush 48, 2) := by decide +kernel
theorem dX6_readNumber_112 : decode cX6_readNumber 112 = .ok (.isub, 1) := by decide +kernel
theorem dX6_readNumber_113 : decode cX6_readNumber 113 = .ok (.istore_n 3, 1) := by decide +kernel
theorem dX6_readNumber_114 : decode cX6_readNumber 114 = .ok (.aload_n 0, 1) := by decide +kernel
theorem dX6_readNumber_115 : decode cX6_readNumber 115 = .ok (.dup, 1) := by decide +kernel
theorem dX6_readNumber_116 : decode cX6_readNumber 116 = .ok (.getfield 19, 3) := by decide +kernel
theorem dX6_readNumber_119 : decode cX6_readNumber 119 = .ok (.iconst 1, 1) := by decide +kernel
theorem dX6_readNumber_120 : decode cX6_readNumber 120 = .ok (.iadd, 1) := by decide +kernel
theorem dX6_readNumber_121 : decode cX6_readNumber 121 = .ok (.putfield 19, 3) := by decide +kernel
theorem dX6_readNumber_124 : decode cX6_readNumber 124 = .ok (.iload_n 3, 1) := by decide +kernel
theorem dX6_readNumber_125 : decode cX6_readNumber 125 = .ok (.iload_n 1, 1) := by decide +kernel
theorem dX6_readNumber_126 : decode cX6_readNumber 126 = .ok (.if_icmp .lt 8, 3) := by decide +kernel
theorem dX6_readNumber_129 : decode cX6_readNumber 129 = .ok (.iload_n 3, 1) := by decide +kernel
theorem dX6_readNumber_130 : decode cX6_readNumber 130 = .ok (.iload_n 2, 1) := by decide +kernel
theorem dX6_readNumber_131 : decode cX6_readNumber 131 = .ok (.if_icmp .le 15, 3) := by decide +kernel
theorem dX6_readNumber_134 : decode cX6_readNumber 134 = .ok (.aload_n 0, 1) := by decide +kernel
theorem dX6_readNumber_135 : decode cX6_readNumber 135 = .ok (.aload_n 0, 1) := by decide +kernel
theorem dX6_readNumber_136 : decode cX6_readNumber 136 = .ok (.getfield 19, 3) := by decide +kernel
theorem dX6_readNumber_139 : decode cX6_readNumber 139 = .ok (.iconst 1, 1) := by decide +kernel
theorem dX6_readNumber_140 : decode cX6_readNumber 140 = .ok (.isub, 1) := by decide +kernel
theorem dX6_readNumber_141 : decode cX6_readNumber 141 = .ok (.putfield 22, 3) := by decide +kernel
theorem dX6_readNumber_144 : decode cX6_readNumber 144 = .ok (.iconst 0, 1) := by decide +kernel
theorem dX6_readNumber_145 : decode cX6_readNumber 145 = .ok (.ireturn, 1) := by decide +kernel
theorem dX6_readNumber_146 : decode cX6_readNumber 146 = .ok (.iload_n 3, 1) := by decide +kernel
theorem dX6_readNumber_147 : decode cX6_readNumber 147 = .ok (.ireturn, 1) := by decide +kernel
theorem dX6_isDigit_0 : decode cX6_isDigit 0 = .ok (.aload_n 0, 1) := by decide +kernel
theorem dX6_isDigit_1 : decode cX6_isDigit 1 = .ok (.getfield 19, 3) := by decide +kernel
theorem dX6_isDigit_4 : decode cX6_isDigit 4 = .ok (.aload_n 0, 1) := by decide +kernel
theorem dX6_isDigit_5 : decode cX6_isDigit 5 = .ok (.getfield 15, 3) := by decide +kernel
theorem dX6_isDigit_8 : decode cX6_isDigit 8 = .ok (.if_icmp .ge 35, 3) := by decide +kernel
theorem dX6_isDigit_11 : decode cX6_isDigit 11 = .ok (.aload_n 0, 1) := by decide +kernel
theorem dX6_isDigit_12 : decode cX6_isDigit 12 = .ok (.getfield 9, 3) := by decide +kernel
theorem dX6_isDigit_15 : decode cX6_isDigit 15 = .ok (.aload_n 0, 1) := by decide +kernel
theorem dX6_isDigit_16 : decode cX6_isDigit 16 = .ok (.getfield 19, 3) := by decide +kernel
theorem dX6_isDigit_19 : decode cX6_isDigit 19 = .ok (.iaload, 1) := by decide +kernel
theorem dX6_isDigit_20 : decode cX6_isDigit 20 = .ok (.bipush 48, 2) := by decide +kernel
theorem dX6_isDigit_22 : decode cX6_isDigit 22 = .ok (.if_icmp .lt 21, 3) := by decide +kernel
theorem dX6_isDigit_25 : decode cX6_isDigit 25 = .ok (.aload_n 0, 1) := by decide +kernel
theorem dX6_isDigit_26 : decode cX6_isDigit 26 = .ok (.getfield 9, 3) := by decide +kernel
theorem dX6_isDigit_29 : decode cX6_isDigit 29 = .ok (.aload_n 0, 1) := by decide +kernel
theorem dX6_isDigit_30 : decode cX6_isDigit 30 = .ok (.getfield 19, 3) := by decide +kernel
theorem dX6_isDigit_33 : decode cX6_isDigit 33 = .ok (.iaload, 1) := by decide +kernel
theorem dX6_isDigit_34 : decode cX6_isDigit 34 = .ok (.bipush 57, 2) := by decide +kernel
theorem dX6_isDigit_36 : decode cX6_isDigit 36 = .ok (.if_icmp .gt 7, 3) := by decide +kernel
theorem dX6_isDigit_39 : decode cX6_isDigit 39 = .ok (.iconst 1, 1) := by decide +kernel
theorem dX6_isDigit_40 : decode cX6_isDigit 40 = .ok (.goto 4, 3) := by decide +kernel
theorem dX6_isDigit_43 : decode cX6_isDigit 43 = .ok (.iconst 0, 1) := by decide +kernel
theorem dX6_isDigit_44 : decode cX6_isDigit 44 = .ok (.ireturn, 1) := by decide +kernel
theorem dX6_skipBlanks_0 : decode cX6_skipBlanks 0 = .ok (.aload_n 0, 1) := by decide +kernel
theorem dX6_skipBlanks_1 : decode cX6_skipBlanks 1 = .ok (.getfield 19, 3) := by decide +kernel
theorem dX6_skipBlanks_4 : decode cX6_skipBlanks 4 = .ok (.aload_n 0, 1) := by decide +kernel
theorem dX6_skipBlanks_5 : decode cX6_skipBlanks 5 = .ok (.getfield 15, 3) := by decide +kernel
theorem dX6_skipBlanks_8 : decode cX6_skipBlanks 8 = .ok (.if_icmp .ge 30, 3) := by decide +kernel
theorem dX6_skipBlanks_11 : decode cX6_skipBlanks 11 = .ok (.aload_n 0, 1) := by decide +kernel
theorem dX6_skipBlanks_12 : decode cX6_skipBlanks 12 = .ok (.getfield 9, 3) := by decide +kernel
theorem dX6_skipBlanks_15 : decode cX6_skipBlanks 15 = .ok (.aload_n 0, 1) := by decide +kernel
theorem dX6_skipBlanks_16 : decode cX6_skipBlanks 16 = .ok (.getfield 19, 3) := by decide +kernel
theorem dX6_skipBlanks_19 : decode cX6_skipBlanks 19 = .ok (.iaload, 1) := by decide +kernel
theorem dX6_skipBlanks_20 : decode cX6_skipBlanks 20 = .ok (.bipush 32, 2) := by decide +kernel
theorem dX6_skipBlanks_22 : decode cX6_skipBlanks 22 = .ok (.if_icmp .ne 16, 3) := by decide +kernel
theorem dX6_skipBlanks_25 : decode cX6_skipBlanks 25 = .ok (.aload_n 0, 1) := by decide +kernel
theorem dX6_skipBlanks_26 : decode cX6_skipBlanks 26 = .ok (.dup, 1) := by decide +kernel
theorem dX6_skipBlanks_27 : decode cX6_skipBlanks 27 = .ok (.getfield 19, 3) := by decide +kernel
theorem dX6_skipBlanks_30 : decode cX6_skipBlanks 30 = .ok (.iconst 1, 1) := by decide +kernel
theorem dX6_skipBlanks_31 : decode cX6_skipBlanks 31 = .ok (.iadd, 1) := by decide +kernel
theorem dX6_skipBlanks_32 : decode cX6_skipBlanks 32 = .ok (.putfield 19, 3) := by decide +kernel
theorem dX6_skipBlanks_35 : decode cX6_skipBlanks 35 = .ok (.goto (-35), 3) := by decide +kernel
theorem dX6_skipBlanks_38 : decode cX6_skipBlanks 38 = .ok (.return_, 1) := by decide +kernel
theorem dX9_init_0 : decode cX9_init 0 = .ok (.aload_n 0, 1) := by decide +kernel
theorem dX9_init_1 : decode cX9_init 1 = .ok (.invokespecial 3, 3) := by decide +kernel
theorem dX9_init_4 : decode cX9_init 4 = .ok (.aload_n 0, 1) := by decide +kernel
theorem dX9_init_5 : decode cX9_init 5 = .ok (.new 9, 3) := by decide +kernel
theorem dX9_init_8 : decode cX9_init 8 = .ok (.dup, 1) := by decide +kernel
theorem dX9_init_9 : decode cX9_init 9 = .ok (.invokespecial 11, 3) := by decide +kernel
theorem dX9_init_12 : decode cX9_init 12 = .ok (.putfield 12, 3) := by decide +kernel
theorem dX9_init_15 : decode cX9_init 15 = .ok (.aload_n 0, 1) := by decide +kernel
theorem dX9_init_16 : decode cX9_init 16 = .ok (.bipush 10, 2) := by decide +kernel
theorem dX9_init_18 : decode cX9_init 18 = .ok (.anewarray 16, 3) := by decide +kernel
theorem dX9_init_21 : decode cX9_init 21 = .ok (.putfield 18, 3) := by decide +kernel
theorem dX9_init_24 : decode cX9_init 24 = .ok (.aload_n 0, 1) := by decide +kernel
theorem dX9_init_25 : decode cX9_init 25 = .ok (.iconst 0, 1) := by decide +kernel
theorem dX9_init_26 : decode cX9_init 26 = .ok (.putfield 22, 3) := by decide +kernel
theorem dX9_init_29 : decode cX9_init 29 = .ok (.aload_n 0, 1) := by decide +kernel
theorem dX9_init_30 : decode cX9_init 30 = .ok (.new 16, 3) := by decide +kernel
theorem dX9_init_33 : decode cX9_init 33 = .ok (.dup, 1) := by decide +kernel
theorem dX9_init_34 : decode cX9_init 34 = .ok (.invokespecial 26, 3) := by decide +kernel
theorem dX9_init_37 : decode cX9_init 37 = .ok (.putfield 27, 3) := by decide +kernel
theorem dX9_init_40 : decode cX9_init 40 = .ok (.aload_n 0, 1) := by decide +kernel
theorem dX9_init_41 : decode cX9_init 41 = .ok (.new 31, 3) := by decide +kernel
theorem dX9_init_44 : decode cX9_init 44 = .ok (.dup, 1) := by decide +kernel
theorem dX9_init_45 : decode cX9_init 45 = .ok (.invokespecial 33, 3) := by decide +kernel
theorem dX9_init_48 : decode cX9_init 48 = .ok (.putfield 34, 3) := by decide +kernel
theorem dX9_init_51 : decode cX9_init 51 = .ok (.aload_n 0, 1) := by decide +kernel
theorem dX9_init_52 : decode cX9_init 52 = .ok (.new 38, 3) := by decide +kernel
theorem dX9_init_55 : decode cX9_init 55 = .ok (.dup, 1) := by decide +kernel
theorem dX9_init_56 : decode cX9_init 56 = .ok (.invokespecial 40, 3) := by decide +kernel
theorem dX9_init_59 : decode cX9_init 59 = .ok (.putfield 41, 3) := by decide +kernel
theorem dX9_init_62 : decode cX9_init 62 = .ok (.aload_n 0, 1) := by decide +kernel
theorem dX9_init_63 : decode cX9_init 63 = .ok (.new 38, 3) := by decide +kernel
theorem dX9_init_66 : decode cX9_init 66 = .ok (.dup, 1) := by decide +kernel
theorem dX9_init_67 : decode cX9_init 67 = .ok (.invokespecial 40, 3) := by decide +kernel
theorem dX9_init_70 : decode cX9_init 70 = .ok (.putfield 45, 3) := by decide +kernel
theorem dX9_init_73 : decode cX9_init 73 = .ok (.aload_n 0, 1) := by decide +kernel
theorem dX9_init_74 : decode cX9_init 74 = .ok (.new 48, 3) := by decide +kernel
theorem dX9_init_77 : decode cX9_init 77 = .ok (.dup, 1) := by decide +kernel
theorem dX9_init_78 : decode cX9_init 78 = .ok (.invokespecial 50, 3) := by decide +kernel
theorem dX9_init_81 : decode cX9_init 81 = .ok (.putfield 51, 3) := by decide +kernel
theorem dX9_init_84 : decode cX9_init 84 = .ok (.aload_n 0, 1) := by decide +kernel
theorem dX9_init_85 : decode cX9_init 85 = .ok (.new 55, 3) := by decide +kernel
theorem dX9_init_88 : decode cX9_init 88 = .ok (.dup, 1) := by decide +kernel
theorem dX9_init_89 : decode cX9_init 89 = .ok (.invokespecial 57, 3) := by decide +kernel
theorem dX9_init_92 : decode cX9_init 92 = .ok (.putfield 58, 3) := by decide +kernel
theorem dX9_init_95 : decode cX9_init 95 = .ok (.aload_n 0, 1) := by decide +kernel
theorem dX9_init_96 : decode cX9_init 96 = .ok (.new 62, 3) := by decide +kernel
theorem dX9_init_99 : decode cX9_init 99 = .ok (.dup, 1) := by decide +kernel
theorem dX9_init_100 : decode cX9_init 100 = .ok (.invokespecial 64, 3) := by decide +kernel
theorem dX9_init_103 : decode cX9_init 103 = .ok (.putfield 65, 3) := by decide +kernel
theorem dX9_init_106 : decode cX9_init 106 = .ok (.aload_n 0, 1) := by decide +kernel
theorem dX9_init_107 : decode cX9_init 107 = .ok (.new 69, 3) := by decide +kernel
theorem dX9_init_110 : decode cX9_init 110 = .ok (.dup, 1) := by decide +kernel
theorem dX9_init_111 : decode cX9_init 111 = .ok (.invokespecial 71, 3) := by decide +kernel
theorem dX9_init_114 : decode cX9_init 114 = .ok (.putfield 72, 3) := by decide +kernel
theorem dX9_init_117 : decode cX9_init 117 = .ok (.aload_n 0, 1) := by decide +kernel
theorem dX9_init_118 : decode cX9_init 118 = .ok (.new 76, 3) := by decide +kernel
theorem dX9_init_121 : decode cX9_init 121 = .ok (.dup, 1) := by decide +kernel
theorem dX9_init_122 : decode cX9_init 122 = .ok (.invokespecial 78, 3) := by decide +kernel
theorem dX9_init_125 : decode cX9_init 125 = .ok (.putfield 79, 3) := by decide +kernel
theorem dX9_init_128 : decode cX9_init 128 = .ok (.return_, 1) := by decide +kernel
theorem dX9_feed_0 : decode cX9_feed 0 = .ok (.iload_n 1, 1) := by decide +kernel
theorem dX9_feed_1 : decode cX9_feed 1 = .ok (.invokestatic 83, 3) := by decide +kernel
theorem dX9_feed_4 : decode cX9_feed 4 = .ok (.iload_n 2, 1) := by decide +kernel
theorem dX9_feed_5 : decode cX9_feed 5 = .ok (.invokestatic 83, 3) := by decide +kernel
theorem dX9_feed_8 : decode cX9_feed 8 = .ok (.iadd, 1) := by decide +kernel
theorem dX9_feed_9 : decode cX9_feed 9 = .ok (.iload_n 3, 1) := by decide +kernel
theorem dX9_feed_10 : decode cX9_feed 10 = .ok (.invokestatic 83, 3) := by decide +kernel
theorem dX9_feed_13 : decode cX9_feed 13 = .ok (.iadd, 1) := by decide +kernel
theorem dX9_feed_14 : decode cX9_feed 14 = .ok (.iload 4, 2) := by decide +kernel
theorem dX9_feed_16 : decode cX9_feed 16 = .ok (.invokestatic 83, 3) := by decide +kernel
theorem dX9_feed_19 : decode cX9_feed 19 = .ok (.iadd, 1) := by decide +kernel
theorem dX9_feed_20 : decode cX9_feed 20 = .ok (.iload 5, 2) := by decide +kernel
theorem dX9_feed_22 : decode cX9_feed 22 = .ok (.invokestatic 83, 3) := by decide +kernel
theorem dX9_feed_25 : decode cX9_feed 25 = .ok (.iadd, 1) := by decide +kernel
theorem dX9_feed_26 : decode cX9_feed 26 = .ok (.istore 6, 2) := by decide +kernel
theorem dX9_feed_28 : decode cX9_feed 28 = .ok (.aload_n 0, 1) := by decide +kernel
theorem dX9_feed_29 : decode cX9_feed 29 = .ok (.getfield 12, 3) := by decide +kernel
theorem dX9_feed_32 : decode cX9_feed 32 = .ok (.getfield 87, 3) := by decide +kernel
theorem dX9_feed_35 : decode cX9_feed 35 = .ok (.iload 6, 2) := by decide +kernel
theorem dX9_feed_37 : decode cX9_feed 37 = .ok (.iadd, 1) := by decide +kernel
theorem dX9_feed_38 : decode cX9_feed 38 = .ok (.sipush 300, 3) := by decide +kernel
theorem dX9_feed_41 : decode cX9_feed 41 = .ok (.if_icmp .le 5, 3) := by decide +kernel
theorem dX9_feed_44 : decode cX9_feed 44 = .ok (.iconst (-1), 1) := by decide +kernel
theorem dX9_feed_45 : decode cX9_feed 45 = .ok (.ireturn, 1) := by decide +kernel
theorem dX9_feed_46 : decode cX9_feed 46 = .ok (.aload_n 0, 1) := by decide +kernel
theorem dX9_feed_47 : decode cX9_feed 47 = .ok (.getfield 12, 3) := by decide +kernel
theorem dX9_feed_50 : decode cX9_feed 50 = .ok (.iload_n 1, 1) := by decide +kernel
theorem dX9_feed_51 : decode cX9_feed 51 = .ok (.invokevirtual 90, 3) := by decide +kernel
theorem dX9_feed_54 : decode cX9_feed 54 = .ok (.aload_n 0, 1) := by decide +kernel
theorem dX9_feed_55 : decode cX9_feed 55 = .ok (.getfield 12, 3) := by decide +kernel
theorem dX9_feed_58 : decode cX9_feed 58 = .ok (.iload_n 2, 1) := by decide +kernel
theorem dX9_feed_59 : decode cX9_feed 59 = .ok (.invokevirtual 90, 3) := by decide +kernel
theorem dX9_feed_62 : decode cX9_feed 62 = .ok (.aload_n 0, 1) := by decide +kernel
theorem dX9_feed_63 : decode cX9_feed 63 = .ok (.getfield 12, 3) := by decide +kernel
theorem dX9_feed_66 : decode cX9_feed 66 = .ok (.iload_n 3, 1) := by decide +kernel
theorem dX9_feed_67 : decode cX9_feed 67 = .ok (.invokevirtual 90, 3) := by decide +kernel
theorem dX9_feed_70 : decode cX9_feed 70 = .ok (.aload_n 0, 1) := by decide +kernel
theorem dX9_feed_71 : decode cX9_feed 71 = .ok (.getfield 12, 3) := by decide +kernel
theorem dX9_feed_74 : decode cX9_feed 74 = .ok (.iload 4, 2) := by decide +kernel
theorem dX9_feed_76 : decode cX9_feed 76 = .ok (.invokevirtual 90, 3) := by decide +kernel
theorem dX9_feed_79 : decode cX9_feed 79 = .ok (.aload_n 0, 1) := by decide +kernel
theorem dX9_feed_80 : decode cX9_feed 80 = .ok (.getfield 12, 3) := by decide +kernel
theorem dX9_feed_83 : decode cX9_feed 83 = .ok (.iload 5, 2) := by decide +kernel
theorem dX9_feed_85 : decode cX9_feed 85 = .ok (.invokevirtual 90, 3) := by decide +kernel
theorem dX9_feed_88 : decode cX9_feed 88 = .ok (.aload_n 0, 1) := by decide +kernel
theorem dX9_feed_89 : decode cX9_feed 89 = .ok (.getfield 12, 3) := by decide +kernel
theorem dX9_feed_92 : decode cX9_feed 92 = .ok (.getfield 87, 3) := by decide +kernel
theorem dX9_feed_95 : decode cX9_feed 95 = .ok (.ireturn, 1) := by decide +kernel
theorem dX9_end_0 : decode cX9_end 0 = .ok (.iload_n 1, 1) := by decide +kernel
theorem dX9_end_1 : decode cX9_end 1 = .ok (.ifCond .lt 14, 3) := by decide +kernel
theorem dX9_end_4 : decode cX9_end 4 = .ok (.iload_n 1, 1) := by decide +kernel
theorem dX9_end_5 : decode cX9_end 5 = .ok (.aload_n 0, 1) := by decide +kernel
theorem dX9_end_6 : decode cX9_end 6 = .ok (.getfield 12, 3) := by decide +kernel
theorem dX9_end_9 : decode cX9_end 9 = .ok (.getfield 87, 3) := by decide +kernel
theorem dX9_end_12 : decode cX9_end 12 = .ok (.if_icmp .le 5, 3) := by decide +kernel
theorem dX9_end_15 : decode cX9_end 15 = .ok (.iconst 0, 1) := by decide +kernel
theorem dX9_end_16 : decode cX9_end 16 = .ok (.ireturn, 1) := by decide +kernel
theorem dX9_end_17 : decode cX9_end 17 = .ok (.aload_n 0, 1) := by decide +kernel
theorem dX9_end_18 : decode cX9_end 18 = .ok (.getfield 12, 3) := by decide +kernel
theorem dX9_end_21 : decode cX9_end 21 = .ok (.iload_n 1, 1) := by decide +kernel
theorem dX9_end_22 : decode cX9_end 22 = .ok (.putfield 87, 3) := by decide +kernel
theorem dX9_end_25 : decode cX9_end 25 = .ok (.iconst 1, 1) := by decide +kernel
theorem dX9_end_26 : decode cX9_end 26 = .ok (.ireturn, 1) := by decide +kernel
theorem dX9_fault_0 : decode cX9_fault 0 = .ok (.aload_n 0, 1) := by decide +kernel
theorem dX9_fault_1 : decode cX9_fault 1 = .ok (.getfield 12, 3) := by decide +kernel
theorem dX9_fault_4 : decode cX9_fault 4 = .ok (.aload_n 0, 1) := by decide +kernel
theorem dX9_fault_5 : decode cX9_fault 5 = .ok (.getfield 27, 3) := by decide +kernel
theorem dX9_fault_8 : decode cX9_fault 8 = .ok (.invokevirtual 94, 3) := by decide +kernel
theorem dX9_fault_11 : decode cX9_fault 11 = .ok (.ireturn, 1) := by decide +kernel
theorem dX9_trade_0 : decode cX9_trade 0 = .ok (.aload_n 0, 1) := by decide +kernel
theorem dX9_trade_1 : decode cX9_trade 1 = .ok (.getfield 22, 3) := by decide +kernel
theorem dX9_trade_4 : decode cX9_trade 4 = .ok (.bipush 10, 2) := by decide +kernel
theorem dX9_trade_6 : decode cX9_trade 6 = .ok (.if_icmp .ge 18, 3) := by decide +kernel
theorem dX9_trade_9 : decode cX9_trade 9 = .ok (.aload_n 0, 1) := by decide +kernel
theorem dX9_trade_10 : decode cX9_trade 10 = .ok (.getfield 12, 3) := by decide +kernel
theorem dX9_trade_13 : decode cX9_trade 13 = .ok (.aload_n 0, 1) := by decide +kernel
theorem dX9_trade_14 : decode cX9_trade 14 = .ok (.getfield 27, 3) := by decide +kernel
theorem dX9_trade_17 : decode cX9_trade 17 = .ok (.invokevirtual 94, 3) := by decide +kernel
theorem dX9_trade_20 : decode cX9_trade 20 = .ok (.iconst (-1), 1) := by decide +kernel
theorem dX9_trade_21 : decode cX9_trade 21 = .ok (.if_icmp .eq 5, 3) := by decide +kernel
theorem dX9_trade_24 : decode cX9_trade 24 = .ok (.iconst (-1), 1) := by decide +kernel
theorem dX9_trade_25 : decode cX9_trade 25 = .ok (.ireturn, 1) := by decide +kernel
theorem dX9_trade_26 : decode cX9_trade 26 = .ok (.aload_n 0, 1) := by decide +kernel
theorem dX9_trade_27 : decode cX9_trade 27 = .ok (.getfield 18, 3) := by decide +kernel
theorem dX9_trade_30 : decode cX9_trade 30 = .ok (.aload_n 0, 1) := by decide +kernel
theorem dX9_trade_31 : decode cX9_trade 31 = .ok (.getfield 22, 3) := by decide +kernel
theorem dX9_trade_34 : decode cX9_trade 34 = .ok (.aload_n 0, 1) := by decide +kernel
theorem dX9_trade_35 : decode cX9_trade 35 = .ok (.getfield 27, 3) := by decide +kernel
theorem dX9_trade_38 : decode cX9_trade 38 = .ok (.aastore, 1) := by decide +kernel
theorem dX9_trade_39 : decode cX9_trade 39 = .ok (.aload_n 0, 1) := by decide +kernel
theorem dX9_trade_40 : decode cX9_trade 40 = .ok (.new 16, 3) := by decide +kernel
theorem dX9_trade_43 : decode cX9_trade 43 = .ok (.dup, 1) := by decide +kernel
theorem dX9_trade_44 : decode cX9_trade 44 = .ok (.invokespecial 26, 3) := by decide +kernel
theorem dX9_trade_47 : decode cX9_trade 47 = .ok (.putfield 27, 3) := by decide +kernel
theorem dX9_trade_50 : decode cX9_trade 50 = .ok (.aload_n 0, 1) := by decide +kernel
theorem dX9_trade_51 : decode cX9_trade 51 = .ok (.getfield 12, 3) := by decide +kernel
theorem dX9_trade_54 : decode cX9_trade 54 = .ok (.iconst 0, 1) := by decide +kernel
theorem dX9_trade_55 : decode cX9_trade 55 = .ok (.putfield 87, 3) := by decide +kernel
theorem dX9_trade_58 : decode cX9_trade 58 = .ok (.aload_n 0, 1) := by decide +kernel
theorem dX9_trade_59 : decode cX9_trade 59 = .ok (.dup, 1) := by decide +kernel
theorem dX9_trade_60 : decode cX9_trade 60 = .ok (.getfield 22, 3) := by decide +kernel
theorem dX9_trade_63 : decode cX9_trade 63 = .ok (.iconst 1, 1) := by decide +kernel
theorem dX9_trade_64 : decode cX9_trade 64 = .ok (.iadd, 1) := by decide +kernel
theorem dX9_trade_65 : decode cX9_trade 65 = .ok (.putfield 22, 3) := by decide +kernel
theorem dX9_trade_68 : decode cX9_trade 68 = .ok (.aload_n 0, 1) := by decide +kernel
theorem dX9_trade_69 : decode cX9_trade 69 = .ok (.getfield 22, 3) := by decide +kernel
theorem dX9_trade_72 : decode cX9_trade 72 = .ok (.iconst 1, 1) := by decide +kernel
theorem dX9_trade_73 : decode cX9_trade 73 = .ok (.isub, 1) := by decide +kernel
theorem dX9_trade_74 : decode cX9_trade 74 = .ok (.ireturn, 1) := by decide +kernel
theorem dX9_house_0 : decode cX9_house 0 = .ok (.aload_n 0, 1) := by decide +kernel
theorem dX9_house_1 : decode cX9_house 1 = .ok (.iload_n 1, 1) := by decide +kernel
theorem dX9_house_2 : decode cX9_house 2 = .ok (.invokevirtual 98, 3) := by decide +kernel
theorem dX9_house_5 : decode cX9_house 5 = .ok (.astore 4, 2) := by decide +kernel
theorem dX9_house_7 : decode cX9_house 7 = .ok (.aload 4, 2) := by decide +kernel
theorem dX9_house_9 : decode cX9_house 9 = .ok (.ifnull 21, 3) := by decide +kernel
theorem dX9_house_12 : decode cX9_house 12 = .ok (.aload 4, 2) := by decide +kernel
theorem dX9_house_14 : decode cX9_house 14 = .ok (.iload_n 2, 1) := by decide +kernel
theorem dX9_house_15 : decode cX9_house 15 = .ok (.invokevirtual 102, 3) := by decide +kernel
theorem dX9_house_18 : decode cX9_house 18 = .ok (.ifCond .eq 12, 3) := by decide +kernel
theorem dX9_house_21 : decode cX9_house 21 = .ok (.iload_n 3, 1) := by decide +kernel
theorem dX9_house_22 : decode cX9_house 22 = .ok (.ifCond .lt 8, 3) := by decide +kernel
theorem dX9_house_25 : decode cX9_house 25 = .ok (.iload_n 3, 1) := by decide +kernel
theorem dX9_house_26 : decode cX9_house 26 = .ok (.iconst 4, 1) := by decide +kernel
theorem dX9_house_27 : decode cX9_house 27 = .ok (.if_icmp .le 13, 3) := by decide +kernel
theorem dX9_house_30 : decode cX9_house 30 = .ok (.new 106, 3) := by decide +kernel
theorem dX9_house_33 : decode cX9_house 33 = .ok (.dup, 1) := by decide +kernel
theorem dX9_house_34 : decode cX9_house 34 = .ok (.ldc 108, 2) := by decide +kernel
theorem dX9_house_36 : decode cX9_house 36 = .ok (.invokespecial 110, 3) := by decide +kernel
theorem dX9_house_39 : decode cX9_house 39 = .ok (.athrow, 1) := by decide +kernel
theorem dX9_house_40 : decode cX9_house 40 = .ok (.iload_n 3, 1) := by decide +kernel
theorem dX9_house_41 : decode cX9_house 41 = .ok (.tableswitch 63 0 3 #[31, 39, 47, 55], 31) := by decide +kernel
theorem dX9_house_72 : decode cX9_house 72 = .ok (.aload 4, 2) := by decide +kernel
theorem dX9_house_74 : decode cX9_house 74 = .ok (.getfield 113, 3) := by decide +kernel
theorem dX9_house_77 : decode cX9_house 77 = .ok (.iload_n 2, 1) := by decide +kernel
theorem dX9_house_78 : decode cX9_house 78 = .ok (.iaload, 1) := by decide +kernel
theorem dX9_house_79 : decode cX9_house 79 = .ok (.ireturn, 1) := by decide +kernel
theorem dX9_house_80 : decode cX9_house 80 = .ok (.aload 4, 2) := by decide +kernel
theorem dX9_house_82 : decode cX9_house 82 = .ok (.getfield 117, 3) := by decide +kernel
theorem dX9_house_85 : decode cX9_house 85 = .ok (.iload_n 2, 1) := by decide +kernel
theorem dX9_house_86 : decode cX9_house 86 = .ok (.iaload, 1) := by decide +kernel
theorem dX9_house_87 : decode cX9_house 87 = .ok (.ireturn, 1) := by decide +kernel
theorem dX9_house_88 : decode cX9_house 88 = .ok (.aload 4, 2) := by decide +kernel
theorem dX9_house_90 : decode cX9_house 90 = .ok (.getfield 120, 3) := by decide +kernel
theorem dX9_house_93 : decode cX9_house 93 = .ok (.iload_n 2, 1) := by decide +kernel
theorem dX9_house_94 : decode cX9_house 94 = .ok (.iaload, 1) := by decide +kernel
theorem dX9_house_95 : decode cX9_house 95 = .ok (.ireturn, 1) := by decide +kernel
theorem dX9_house_96 : decode cX9_house 96 = .ok (.aload 4, 2) := by decide +kernel
theorem dX9_house_98 : decode cX9_house 98 = .ok (.getfield 123, 3) := by decide +kernel
theorem dX9_house_101 : decode cX9_house 101 = .ok (.iload_n 2, 1) := by decide +kernel
theorem dX9_house_102 : decode cX9_house 102 = .ok (.iaload, 1) := by decide +kernel
theorem dX9_house_103 : decode cX9_house 103 = .ok (.ireturn, 1) := by decide +kernel
theorem dX9_house_104 : decode cX9_house 104 = .ok (.aload 4, 2) := by decide +kernel
theorem dX9_house_106 : decode cX9_house 106 = .ok (.iload_n 2, 1) := by decide +kernel
theorem dX9_house_107 : decode cX9_house 107 = .ok (.invokevirtual 126, 3) := by decide +kernel
theorem dX9_house_110 : decode cX9_house 110 = .ok (.ifCond .eq 15, 3) := by decide +kernel
theorem dX9_house_113 : decode cX9_house 113 = .ok (.aload 4, 2) := by decide +kernel
theorem dX9_house_115 : decode cX9_house 115 = .ok (.getfield 129, 3) := by decide +kernel
theorem dX9_house_118 : decode cX9_house 118 = .ok (.iload_n 2, 1) := by decide +kernel
theorem dX9_house_119 : decode cX9_house 119 = .ok (.aaload, 1) := by decide +kernel
theorem dX9_house_120 : decode cX9_house 120 = .ok (.iconst 0, 1) := by decide +kernel
theorem dX9_house_121 : decode cX9_house 121 = .ok (.iaload, 1) := by decide +kernel
theorem dX9_house_122 : decode cX9_house 122 = .ok (.goto 4, 3) := by decide +kernel
theorem dX9_house_125 : decode cX9_house 125 = .ok (.iconst 0, 1) := by decide +kernel
theorem dX9_house_126 : decode cX9_house 126 = .ok (.ireturn, 1) := by decide +kernel
theorem dX9_houses_0 : decode cX9_houses 0 = .ok (.aload_n 0, 1) := by decide +kernel
theorem dX9_houses_1 : decode cX9_houses 1 = .ok (.iload_n 1, 1) := by decide +kernel
theorem dX9_houses_2 : decode cX9_houses 2 = .ok (.invokevirtual 98, 3) := by decide +kernel
theorem dX9_houses_5 : decode cX9_houses 5 = .ok (.astore_n 2, 1) := by decide +kernel
theorem dX9_houses_6 : decode cX9_houses 6 = .ok (.aload_n 2, 1) := by decide +kernel
theorem dX9_houses_7 : decode cX9_houses 7 = .ok (.ifnonnull 7, 3) := by decide +kernel
theorem dX9_houses_10 : decode cX9_houses 10 = .ok (.iconst (-1), 1) := by decide +kernel
theorem dX9_houses_11 : decode cX9_houses 11 = .ok (.goto 7, 3) := by decide +kernel
theorem dX9_houses_14 : decode cX9_houses 14 = .ok (.aload_n 2, 1) := by decide +kernel
theorem dX9_houses_15 : decode cX9_houses 15 = .ok (.getfield 133, 3) := by decide +kernel
theorem dX9_houses_18 : decode cX9_houses 18 = .ok (.ireturn, 1) := by decide +kernel
theorem dX9_want_0 : decode cX9_want 0 = .ok (.aload_n 0, 1) := by decide +kernel
theorem dX9_want_1 : decode cX9_want 1 = .ok (.iload_n 1, 1) := by decide +kernel
theorem dX9_want_2 : decode cX9_want 2 = .ok (.invokevirtual 98, 3) := by decide +kernel
theorem dX9_want_5 : decode cX9_want 5 = .ok (.astore 4, 2) := by decide +kernel
theorem dX9_want_7 : decode cX9_want 7 = .ok (.aload 4, 2) := by decide +kernel
theorem dX9_want_9 : decode cX9_want 9 = .ok (.ifnull 19, 3) := by decide +kernel
theorem dX9_want_12 : decode cX9_want 12 = .ok (.aload 4, 2) := by decide +kernel
theorem dX9_want_14 : decode cX9_want 14 = .ok (.iload_n 2, 1) := by decide +kernel
theorem dX9_want_15 : decode cX9_want 15 = .ok (.invokevirtual 126, 3) := by decide +kernel
theorem dX9_want_18 : decode cX9_want 18 = .ok (.ifCond .eq 10, 3) := by decide +kernel
theorem dX9_want_21 : decode cX9_want 21 = .ok (.iload_n 3, 1) := by decide +kernel
theorem dX9_want_22 : decode cX9_want 22 = .ok (.invokestatic 136, 3) := by decide +kernel
theorem dX9_want_25 : decode cX9_want 25 = .ok (.ifCond .ne 5, 3) := by decide +kernel
theorem dX9_want_28 : decode cX9_want 28 = .ok (.iconst (-1), 1) := by decide +kernel
theorem dX9_want_29 : decode cX9_want 29 = .ok (.ireturn, 1) := by decide +kernel
theorem dX9_want_30 : decode cX9_want 30 = .ok (.aload 4, 2) := by decide +kernel
theorem dX9_want_32 : decode cX9_want 32 = .ok (.getfield 129, 3) := by decide +kernel
theorem dX9_want_35 : decode cX9_want 35 = .ok (.iload_n 2, 1) := by decide +kernel
theorem dX9_want_36 : decode cX9_want 36 = .ok (.aaload, 1) := by decide +kernel
theorem dX9_want_37 : decode cX9_want 37 = .ok (.iload_n 3, 1) := by decide +kernel
theorem dX9_want_38 : decode cX9_want 38 = .ok (.iaload, 1) := by decide +kernel
theorem dX9_want_39 : decode cX9_want 39 = .ok (.ireturn, 1) := by decide +kernel
theorem dX9_join_0 : decode cX9_join 0 = .ok (.aload_n 0, 1) := by decide +kernel
theorem dX9_join_1 : decode cX9_join 1 = .ok (.iload_n 1, 1) := by decide +kernel
theorem dX9_join_2 : decode cX9_join 2 = .ok (.invokevirtual 98, 3) := by decide +kernel
theorem dX9_join_5 : decode cX9_join 5 = .ok (.astore_n 3, 1) := by decide +kernel
theorem dX9_join_6 : decode cX9_join 6 = .ok (.aload_n 3, 1) := by decide +kernel
theorem dX9_join_7 : decode cX9_join 7 = .ok (.ifnull 15, 3) := by decide +kernel
theorem dX9_join_10 : decode cX9_join 10 = .ok (.iload_n 2, 1) := by decide +kernel
theorem dX9_join_11 : decode cX9_join 11 = .ok (.ifCond .lt 11, 3) := by decide +kernel
theorem dX9_join_14 : decode cX9_join 14 = .ok (.iload_n 2, 1) := by decide +kernel
theorem dX9_join_15 : decode cX9_join 15 = .ok (.aload_n 3, 1) := by decide +kernel
theorem dX9_join_16 : decode cX9_join 16 = .ok (.invokevirtual 139, 3) := by decide +kernel
theorem dX9_join_19 : decode cX9_join 19 = .ok (.if_icmp .le 5, 3) := by decide +kernel
theorem dX9_join_22 : decode cX9_join 22 = .ok (.iconst 0, 1) := by decide +kernel
theorem dX9_join_23 : decode cX9_join 23 = .ok (.ireturn, 1) := by decide +kernel
theorem dX9_join_24 : decode cX9_join 24 = .ok (.aload_n 3, 1) := by decide +kernel
theorem dX9_join_25 : decode cX9_join 25 = .ok (.getfield 143, 3) := by decide +kernel
theorem dX9_join_28 : decode cX9_join 28 = .ok (.iload_n 2, 1) := by decide +kernel
theorem dX9_join_29 : decode cX9_join 29 = .ok (.putfield 146, 3) := by decide +kernel
theorem dX9_join_32 : decode cX9_join 32 = .ok (.iconst 1, 1) := by decide +kernel
theorem dX9_join_33 : decode cX9_join 33 = .ok (.ireturn, 1) := by decide +kernel
theorem dX9_law_0 : decode cX9_law 0 = .ok (.aload_n 0, 1) := by decide +kernel
theorem dX9_law_1 : decode cX9_law 1 = .ok (.iload_n 1, 1) := by decide +kernel
theorem dX9_law_2 : decode cX9_law 2 = .ok (.invokevirtual 98, 3) := by decide +kernel
theorem dX9_law_5 : decode cX9_law 5 = .ok (.astore 4, 2) := by decide +kernel
theorem dX9_law_7 : decode cX9_law 7 = .ok (.aload 4, 2) := by decide +kernel
theorem dX9_law_9 : decode cX9_law 9 = .ok (.ifnull 10, 3) := by decide +kernel
theorem dX9_law_12 : decode cX9_law 12 = .ok (.iload_n 2, 1) := by decide +kernel
theorem dX9_law_13 : decode cX9_law 13 = .ok (.invokestatic 136, 3) := by decide +kernel
theorem dX9_law_16 : decode cX9_law 16 = .ok (.ifCond .ne 5, 3) := by decide +kernel
theorem dX9_law_19 : decode cX9_law 19 = .ok (.iconst 0, 1) := by decide +kernel
theorem dX9_law_20 : decode cX9_law 20 = .ok (.ireturn, 1) := by decide +kernel
theorem dX9_law_21 : decode cX9_law 21 = .ok (.aload 4, 2) := by decide +kernel
theorem dX9_law_23 : decode cX9_law 23 = .ok (.getfield 143, 3) := by decide +kernel
theorem dX9_law_26 : decode cX9_law 26 = .ok (.iload_n 2, 1) := by decide +kernel
theorem dX9_law_27 : decode cX9_law 27 = .ok (.putfield 149, 3) := by decide +kernel
theorem dX9_law_30 : decode cX9_law 30 = .ok (.aload 4, 2) := by decide +kernel
theorem dX9_law_32 : decode cX9_law 32 = .ok (.getfield 143, 3) := by decide +kernel
theorem dX9_law_35 : decode cX9_law 35 = .ok (.iload_n 3, 1) := by decide +kernel
theorem dX9_law_36 : decode cX9_law 36 = .ok (.putfield 152, 3) := by decide +kernel
theorem dX9_law_39 : decode cX9_law 39 = .ok (.aload 4, 2) := by decide +kernel
theorem dX9_law_41 : decode cX9_law 41 = .ok (.iconst 0, 1) := by decide +kernel
theorem dX9_law_42 : decode cX9_law 42 = .ok (.putfield 156, 3) := by decide +kernel
theorem dX9_law_45 : decode cX9_law 45 = .ok (.iconst 1, 1) := by decide +kernel
theorem dX9_law_46 : decode cX9_law 46 = .ok (.ireturn, 1) := by decide +kernel
theorem dX9_halve_0 : decode cX9_halve 0 = .ok (.aload_n 0, 1) := by decide +kernel
theorem dX9_halve_1 : decode cX9_halve 1 = .ok (.iload_n 1, 1) := by decide +kernel
theorem dX9_halve_2 : decode cX9_halve 2 = .ok (.invokevirtual 98, 3) := by decide +kernel
theorem dX9_halve_5 : decode cX9_halve 5 = .ok (.astore_n 3, 1) := by decide +kernel
theorem dX9_halve_6 : decode cX9_halve 6 = .ok (.aload_n 3, 1) := by decide +kernel
theorem dX9_halve_7 : decode cX9_halve 7 = .ok (.ifnonnull 5, 3) := by decide +kernel
theorem dX9_halve_10 : decode cX9_halve 10 = .ok (.iconst 0, 1) := by decide +kernel
theorem dX9_halve_11 : decode cX9_halve 11 = .ok (.ireturn, 1) := by decide +kernel
theorem dX9_halve_12 : decode cX9_halve 12 = .ok (.aload_n 3, 1) := by decide +kernel
theorem dX9_halve_13 : decode cX9_halve 13 = .ok (.getfield 143, 3) := by decide +kernel
theorem dX9_halve_16 : decode cX9_halve 16 = .ok (.iload_n 2, 1) := by decide +kernel
theorem dX9_halve_17 : decode cX9_halve 17 = .ok (.putfield 159, 3) := by decide +kernel
theorem dX9_halve_20 : decode cX9_halve 20 = .ok (.aload_n 3, 1) := by decide +kernel
theorem dX9_halve_21 : decode cX9_halve 21 = .ok (.iconst 0, 1) := by decide +kernel
theorem dX9_halve_22 : decode cX9_halve 22 = .ok (.putfield 156, 3) := by decide +kernel
theorem dX9_halve_25 : decode cX9_halve 25 = .ok (.iconst 1, 1) := by decide +kernel
theorem dX9_halve_26 : decode cX9_halve 26 = .ok (.ireturn, 1) := by decide +kernel
theorem dX9_ask_0 : decode cX9_ask 0 = .ok (.aload_n 0, 1) := by decide +kernel
theorem dX9_ask_1 : decode cX9_ask 1 = .ok (.iload_n 1, 1) := by decide +kernel
theorem dX9_ask_2 : decode cX9_ask 2 = .ok (.invokevirtual 98, 3) := by decide +kernel
theorem dX9_ask_5 : decode cX9_ask 5 = .ok (.astore 4, 2) := by decide +kernel
theorem dX9_ask_7 : decode cX9_ask 7 = .ok (.aload 4, 2) := by decide +kernel
theorem dX9_ask_9 : decode cX9_ask 9 = .ok (.ifnull 23, 3) := by decide +kernel
theorem dX9_ask_12 : decode cX9_ask 12 = .ok (.aload 4, 2) := by decide +kernel
theorem dX9_ask_14 : decode cX9_ask 14 = .ok (.iload_n 2, 1) := by decide +kernel
theorem dX9_ask_15 : decode cX9_ask 15 = .ok (.invokevirtual 126, 3) := by decide +kernel
theorem dX9_ask_18 : decode cX9_ask 18 = .ok (.ifCond .eq 14, 3) := by decide +kernel
theorem dX9_ask_21 : decode cX9_ask 21 = .ok (.iload_n 3, 1) := by decide +kernel
theorem dX9_ask_22 : decode cX9_ask 22 = .ok (.ifCond .lt 10, 3) := by decide +kernel
theorem dX9_ask_25 : decode cX9_ask 25 = .ok (.iload_n 3, 1) := by decide +kernel
theorem dX9_ask_26 : decode cX9_ask 26 = .ok (.sipush 300, 3) := by decide +kernel
theorem dX9_ask_29 : decode cX9_ask 29 = .ok (.if_icmp .le 5, 3) := by decide +kernel
theorem dX9_ask_32 : decode cX9_ask 32 = .ok (.iconst (-1), 1) := by decide +kernel
theorem dX9_ask_33 : decode cX9_ask 33 = .ok (.ireturn, 1) := by decide +kernel
theorem dX9_ask_34 : decode cX9_ask 34 = .ok (.aload 4, 2) := by decide +kernel
theorem dX9_ask_36 : decode cX9_ask 36 = .ok (.getfield 129, 3) := by decide +kernel
theorem dX9_ask_39 : decode cX9_ask 39 = .ok (.iload_n 2, 1) := by decide +kernel
theorem dX9_ask_40 : decode cX9_ask 40 = .ok (.aaload, 1) := by decide +kernel
theorem dX9_ask_41 : decode cX9_ask 41 = .ok (.aload 4, 2) := by decide +kernel
theorem dX9_ask_43 : decode cX9_ask 43 = .ok (.getfield 143, 3) := by decide +kernel
theorem dX9_ask_46 : decode cX9_ask 46 = .ok (.getfield 149, 3) := by decide +kernel
theorem dX9_ask_49 : decode cX9_ask 49 = .ok (.iload_n 3, 1) := by decide +kernel
theorem dX9_ask_50 : decode cX9_ask 50 = .ok (.invokestatic 162, 3) := by decide +kernel
theorem dX9_ask_53 : decode cX9_ask 53 = .ok (.ireturn, 1) := by decide +kernel
theorem dX9_take_0 : decode cX9_take 0 = .ok (.aload_n 0, 1) := by decide +kernel
theorem dX9_take_1 : decode cX9_take 1 = .ok (.iload_n 1, 1) := by decide +kernel
theorem dX9_take_2 : decode cX9_take 2 = .ok (.invokevirtual 98, 3) := by decide +kernel
theorem dX9_take_5 : decode cX9_take 5 = .ok (.astore 4, 2) := by decide +kernel
theorem dX9_take_7 : decode cX9_take 7 = .ok (.aload 4, 2) := by decide +kernel
theorem dX9_take_9 : decode cX9_take 9 = .ok (.ifnull 23, 3) := by decide +kernel
theorem dX9_take_12 : decode cX9_take 12 = .ok (.aload 4, 2) := by decide +kernel
theorem dX9_take_14 : decode cX9_take 14 = .ok (.iload_n 2, 1) := by decide +kernel
theorem dX9_take_15 : decode cX9_take 15 = .ok (.invokevirtual 102, 3) := by decide +kernel
theorem dX9_take_18 : decode cX9_take 18 = .ok (.ifCond .eq 14, 3) := by decide +kernel
theorem dX9_take_21 : decode cX9_take 21 = .ok (.iload_n 3, 1) := by decide +kernel
theorem dX9_take_22 : decode cX9_take 22 = .ok (.ifCond .lt 10, 3) := by decide +kernel
theorem dX9_take_25 : decode cX9_take 25 = .ok (.iload_n 3, 1) := by decide +kernel
theorem dX9_take_26 : decode cX9_take 26 = .ok (.sipush 300, 3) := by decide +kernel
theorem dX9_take_29 : decode cX9_take 29 = .ok (.if_icmp .le 5, 3) := by decide +kernel
theorem dX9_take_32 : decode cX9_take 32 = .ok (.iconst (-1), 1) := by decide +kernel
theorem dX9_take_33 : decode cX9_take 33 = .ok (.ireturn, 1) := by decide +kernel
theorem dX9_take_34 : decode cX9_take 34 = .ok (.aload_n 0, 1) := by decide +kernel
theorem dX9_take_35 : decode cX9_take 35 = .ok (.getfield 41, 3) := by decide +kernel
theorem dX9_take_38 : decode cX9_take 38 = .ok (.aload 4, 2) := by decide +kernel
theorem dX9_take_40 : decode cX9_take 40 = .ok (.aload 4, 2) := by decide +kernel
theorem dX9_take_42 : decode cX9_take 42 = .ok (.getfield 143, 3) := by decide +kernel
theorem dX9_take_45 : decode cX9_take 45 = .ok (.invokevirtual 166, 3) := by decide +kernel
theorem dX9_take_48 : decode cX9_take 48 = .ok (.aload_n 0, 1) := by decide +kernel
theorem dX9_take_49 : decode cX9_take 49 = .ok (.getfield 41, 3) := by decide +kernel
theorem dX9_take_52 : decode cX9_take 52 = .ok (.aload 4, 2) := by decide +kernel
theorem dX9_take_54 : decode cX9_take 54 = .ok (.iload_n 2, 1) := by decide +kernel
theorem dX9_take_55 : decode cX9_take 55 = .ok (.iload_n 3, 1) := by decide +kernel
theorem dX9_take_56 : decode cX9_take 56 = .ok (.invokevirtual 170, 3) := by decide +kernel
theorem dX9_take_59 : decode cX9_take 59 = .ok (.ireturn, 1) := by decide +kernel
theorem dX9_outcome_0 : decode cX9_outcome 0 = .ok (.aload_n 0, 1) := by decide +kernel
theorem dX9_outcome_1 : decode cX9_outcome 1 = .ok (.iload_n 1, 1) := by decide +kernel
theorem dX9_outcome_2 : decode cX9_outcome 2 = .ok (.invokevirtual 98, 3) := by decide +kernel
theorem dX9_outcome_5 : decode cX9_outcome 5 = .ok (.astore 4, 2) := by decide +kernel
theorem dX9_outcome_7 : decode cX9_outcome 7 = .ok (.aload 4, 2) := by decide +kernel
theorem dX9_outcome_9 : decode cX9_outcome 9 = .ok (.ifnull 21, 3) := by decide +kernel
theorem dX9_outcome_12 : decode cX9_outcome 12 = .ok (.aload 4, 2) := by decide +kernel
theorem dX9_outcome_14 : decode cX9_outcome 14 = .ok (.iload_n 2, 1) := by decide +kernel
theorem dX9_outcome_15 : decode cX9_outcome 15 = .ok (.invokevirtual 102, 3) := by decide +kernel
theorem dX9_outcome_18 : decode cX9_outcome 18 = .ok (.ifCond .eq 12, 3) := by decide +kernel
theorem dX9_outcome_21 : decode cX9_outcome 21 = .ok (.iload_n 3, 1) := by decide +kernel
theorem dX9_outcome_22 : decode cX9_outcome 22 = .ok (.ifCond .lt 8, 3) := by decide +kernel
theorem dX9_outcome_25 : decode cX9_outcome 25 = .ok (.iload_n 3, 1) := by decide +kernel
theorem dX9_outcome_26 : decode cX9_outcome 26 = .ok (.iconst 3, 1) := by decide +kernel
theorem dX9_outcome_27 : decode cX9_outcome 27 = .ok (.if_icmp .le 6, 3) := by decide +kernel
theorem dX9_outcome_30 : decode cX9_outcome 30 = .ok (.ldc 174, 2) := by decide +kernel
theorem dX9_outcome_32 : decode cX9_outcome 32 = .ok (.ireturn, 1) := by decide +kernel
theorem dX9_outcome_33 : decode cX9_outcome 33 = .ok (.aload_n 0, 1) := by decide +kernel
theorem dX9_outcome_34 : decode cX9_outcome 34 = .ok (.getfield 41, 3) := by decide +kernel
theorem dX9_outcome_37 : decode cX9_outcome 37 = .ok (.aload 4, 2) := by decide +kernel
theorem dX9_outcome_39 : decode cX9_outcome 39 = .ok (.aload 4, 2) := by decide +kernel
theorem dX9_outcome_41 : decode cX9_outcome 41 = .ok (.getfield 143, 3) := by decide +kernel
theorem dX9_outcome_44 : decode cX9_outcome 44 = .ok (.invokevirtual 166, 3) := by decide +kernel
theorem dX9_outcome_47 : decode cX9_outcome 47 = .ok (.iload_n 3, 1) := by decide +kernel
theorem dX9_outcome_48 : decode cX9_outcome 48 = .ok (.tableswitch 58 0 2 #[28, 38, 48], 28) := by decide +kernel
theorem dX9_outcome_76 : decode cX9_outcome 76 = .ok (.aload_n 0, 1) := by decide +kernel
theorem dX9_outcome_77 : decode cX9_outcome 77 = .ok (.getfield 41, 3) := by decide +kernel
theorem dX9_outcome_80 : decode cX9_outcome 80 = .ok (.getfield 175, 3) := by decide +kernel
theorem dX9_outcome_83 : decode cX9_outcome 83 = .ok (.iload_n 2, 1) := by decide +kernel
theorem dX9_outcome_84 : decode cX9_outcome 84 = .ok (.iaload, 1) := by decide +kernel
theorem dX9_outcome_85 : decode cX9_outcome 85 = .ok (.ireturn, 1) := by decide +kernel
theorem dX9_outcome_86 : decode cX9_outcome 86 = .ok (.aload_n 0, 1) := by decide +kernel
theorem dX9_outcome_87 : decode cX9_outcome 87 = .ok (.getfield 41, 3) := by decide +kernel
theorem dX9_outcome_90 : decode cX9_outcome 90 = .ok (.getfield 178, 3) := by decide +kernel
theorem dX9_outcome_93 : decode cX9_outcome 93 = .ok (.iload_n 2, 1) := by decide +kernel
theorem dX9_outcome_94 : decode cX9_outcome 94 = .ok (.iaload, 1) := by decide +kernel
theorem dX9_outcome_95 : decode cX9_outcome 95 = .ok (.ireturn, 1) := by decide +kernel
theorem dX9_outcome_96 : decode cX9_outcome 96 = .ok (.aload_n 0, 1) := by decide +kernel
theorem dX9_outcome_97 : decode cX9_outcome 97 = .ok (.getfield 41, 3) := by decide +kernel
theorem dX9_outcome_100 : decode cX9_outcome 100 = .ok (.getfield 181, 3) := by decide +kernel
theorem dX9_outcome_103 : decode cX9_outcome 103 = .ok (.iload_n 2, 1) := by decide +kernel
theorem dX9_outcome_104 : decode cX9_outcome 104 = .ok (.iaload, 1) := by decide +kernel
theorem dX9_outcome_105 : decode cX9_outcome 105 = .ok (.ireturn, 1) := by decide +kernel
theorem dX9_outcome_106 : decode cX9_outcome 106 = .ok (.aload_n 0, 1) := by decide +kernel
theorem dX9_outcome_107 : decode cX9_outcome 107 = .ok (.getfield 41, 3) := by decide +kernel
theorem dX9_outcome_110 : decode cX9_outcome 110 = .ok (.getfield 184, 3) := by decide +kernel
theorem dX9_outcome_113 : decode cX9_outcome 113 = .ok (.iload_n 2, 1) := by decide +kernel
theorem dX9_outcome_114 : decode cX9_outcome 114 = .ok (.iaload, 1) := by decide +kernel
theorem dX9_outcome_115 : decode cX9_outcome 115 = .ok (.ireturn, 1) := by decide +kernel
theorem dX9_sum_0 : decode cX9_sum 0 = .ok (.aload_n 0, 1) := by decide +kernel
theorem dX9_sum_1 : decode cX9_sum 1 = .ok (.iload_n 1, 1) := by decide +kernel
theorem dX9_sum_2 : decode cX9_sum 2 = .ok (.invokevirtual 98, 3) := by decide +kernel
theorem dX9_sum_5 : decode cX9_sum 5 = .ok (.astore_n 3, 1) := by decide +kernel
theorem dX9_sum_6 : decode cX9_sum 6 = .ok (.aload_n 3, 1) := by decide +kernel
theorem dX9_sum_7 : decode cX9_sum 7 = .ok (.ifnull 12, 3) := by decide +kernel
theorem dX9_sum_10 : decode cX9_sum 10 = .ok (.iload_n 2, 1) := by decide +kernel
theorem dX9_sum_11 : decode cX9_sum 11 = .ok (.ifCond .lt 8, 3) := by decide +kernel
theorem dX9_sum_14 : decode cX9_sum 14 = .ok (.iload_n 2, 1) := by decide +kernel
theorem dX9_sum_15 : decode cX9_sum 15 = .ok (.iconst 3, 1) := by decide +kernel
theorem dX9_sum_16 : decode cX9_sum 16 = .ok (.if_icmp .le 6, 3) := by decide +kernel
theorem dX9_sum_19 : decode cX9_sum 19 = .ok (.ldc 174, 2) := by decide +kernel
theorem dX9_sum_21 : decode cX9_sum 21 = .ok (.ireturn, 1) := by decide +kernel
theorem dX9_sum_22 : decode cX9_sum 22 = .ok (.aload_n 0, 1) := by decide +kernel
theorem dX9_sum_23 : decode cX9_sum 23 = .ok (.getfield 41, 3) := by decide +kernel
theorem dX9_sum_26 : decode cX9_sum 26 = .ok (.aload_n 3, 1) := by decide +kernel
theorem dX9_sum_27 : decode cX9_sum 27 = .ok (.aload_n 3, 1) := by decide +kernel
theorem dX9_sum_28 : decode cX9_sum 28 = .ok (.getfield 143, 3) := by decide +kernel
theorem dX9_sum_31 : decode cX9_sum 31 = .ok (.invokevirtual 166, 3) := by decide +kernel
theorem dX9_sum_34 : decode cX9_sum 34 = .ok (.iload_n 2, 1) := by decide +kernel
theorem dX9_sum_35 : decode cX9_sum 35 = .ok (.ifCond .ne 12, 3) := by decide +kernel
theorem dX9_sum_38 : decode cX9_sum 38 = .ok (.aload_n 0, 1) := by decide +kernel
theorem dX9_sum_39 : decode cX9_sum 39 = .ok (.getfield 41, 3) := by decide +kernel
theorem dX9_sum_42 : decode cX9_sum 42 = .ok (.aload_n 3, 1) := by decide +kernel
theorem dX9_sum_43 : decode cX9_sum 43 = .ok (.invokevirtual 187, 3) := by decide +kernel
theorem dX9_sum_46 : decode cX9_sum 46 = .ok (.ireturn, 1) := by decide +kernel
theorem dX9_sum_47 : decode cX9_sum 47 = .ok (.iload_n 2, 1) := by decide +kernel
theorem dX9_sum_48 : decode cX9_sum 48 = .ok (.iconst 3, 1) := by decide +kernel
theorem dX9_sum_49 : decode cX9_sum 49 = .ok (.if_icmp .ne 12, 3) := by decide +kernel
theorem dX9_sum_52 : decode cX9_sum 52 = .ok (.aload_n 0, 1) := by decide +kernel
theorem dX9_sum_53 : decode cX9_sum 53 = .ok (.getfield 41, 3) := by decide +kernel
theorem dX9_sum_56 : decode cX9_sum 56 = .ok (.aload_n 3, 1) := by decide +kernel
theorem dX9_sum_57 : decode cX9_sum 57 = .ok (.invokevirtual 190, 3) := by decide +kernel
theorem dX9_sum_60 : decode cX9_sum 60 = .ok (.ireturn, 1) := by decide +kernel
theorem dX9_sum_61 : decode cX9_sum 61 = .ok (.aload_n 0, 1) := by decide +kernel
theorem dX9_sum_62 : decode cX9_sum 62 = .ok (.aload_n 3, 1) := by decide +kernel
theorem dX9_sum_63 : decode cX9_sum 63 = .ok (.aload_n 3, 1) := by decide +kernel
theorem dX9_sum_64 : decode cX9_sum 64 = .ok (.getfield 143, 3) := by decide +kernel
theorem dX9_sum_67 : decode cX9_sum 67 = .ok (.getfield 149, 3) := by decide +kernel
theorem dX9_sum_70 : decode cX9_sum 70 = .ok (.invokevirtual 193, 3) := by decide +kernel
theorem dX9_sum_73 : decode cX9_sum 73 = .ok (.iload_n 2, 1) := by decide +kernel
theorem dX9_sum_74 : decode cX9_sum 74 = .ok (.iconst 1, 1) := by decide +kernel
theorem dX9_sum_75 : decode cX9_sum 75 = .ok (.if_icmp .ne 14, 3) := by decide +kernel
theorem dX9_sum_78 : decode cX9_sum 78 = .ok (.aload_n 0, 1) := by decide +kernel
theorem dX9_sum_79 : decode cX9_sum 79 = .ok (.getfield 45, 3) := by decide +kernel
theorem dX9_sum_82 : decode cX9_sum 82 = .ok (.aload_n 3, 1) := by decide +kernel
theorem dX9_sum_83 : decode cX9_sum 83 = .ok (.invokevirtual 187, 3) := by decide +kernel
theorem dX9_sum_86 : decode cX9_sum 86 = .ok (.goto 20, 3) := by decide +kernel
theorem dX9_sum_89 : decode cX9_sum 89 = .ok (.aload_n 0, 1) := by decide +kernel
theorem dX9_sum_90 : decode cX9_sum 90 = .ok (.getfield 45, 3) := by decide +kernel
theorem dX9_sum_93 : decode cX9_sum 93 = .ok (.aload_n 3, 1) := by decide +kernel
theorem dX9_sum_94 : decode cX9_sum 94 = .ok (.invokevirtual 187, 3) := by decide +kernel
theorem dX9_sum_97 : decode cX9_sum 97 = .ok (.aload_n 0, 1) := by decide +kernel
theorem dX9_sum_98 : decode cX9_sum 98 = .ok (.getfield 41, 3) := by decide +kernel
theorem dX9_sum_101 : decode cX9_sum 101 = .ok (.aload_n 3, 1) := by decide +kernel
theorem dX9_sum_102 : decode cX9_sum 102 = .ok (.invokevirtual 187, 3) := by decide +kernel
theorem dX9_sum_105 : decode cX9_sum 105 = .ok (.isub, 1) := by decide +kernel
theorem dX9_sum_106 : decode cX9_sum 106 = .ok (.ireturn, 1) := by decide +kernel
theorem dX9_passed_0 : decode cX9_passed 0 = .ok (.aload_n 0, 1) := by decide +kernel
theorem dX9_passed_1 : decode cX9_passed 1 = .ok (.iload_n 1, 1) := by decide +kernel
theorem dX9_passed_2 : decode cX9_passed 2 = .ok (.invokevirtual 98, 3) := by decide +kernel
theorem dX9_passed_5 : decode cX9_passed 5 = .ok (.astore 5, 2) := by decide +kernel
theorem dX9_passed_7 : decode cX9_passed 7 = .ok (.aload 5, 2) := by decide +kernel
theorem dX9_passed_9 : decode cX9_passed 9 = .ok (.ifnull 32, 3) := by decide +kernel
theorem dX9_passed_12 : decode cX9_passed 12 = .ok (.aload 5, 2) := by decide +kernel
theorem dX9_passed_14 : decode cX9_passed 14 = .ok (.iload_n 2, 1) := by decide +kernel
theorem dX9_passed_15 : decode cX9_passed 15 = .ok (.invokevirtual 102, 3) := by decide +kernel
theorem dX9_passed_18 : decode cX9_passed 18 = .ok (.ifCond .eq 23, 3) := by decide +kernel
theorem dX9_passed_21 : decode cX9_passed 21 = .ok (.aload 5, 2) := by decide +kernel
theorem dX9_passed_23 : decode cX9_passed 23 = .ok (.iload 4, 2) := by decide +kernel
theorem dX9_passed_25 : decode cX9_passed 25 = .ok (.invokevirtual 126, 3) := by decide +kernel
theorem dX9_passed_28 : decode cX9_passed 28 = .ok (.ifCond .eq 13, 3) := by decide +kernel
theorem dX9_passed_31 : decode cX9_passed 31 = .ok (.iload_n 3, 1) := by decide +kernel
theorem dX9_passed_32 : decode cX9_passed 32 = .ok (.ifCond .lt 9, 3) := by decide +kernel
theorem dX9_passed_35 : decode cX9_passed 35 = .ok (.iload_n 3, 1) := by decide +kernel
theorem dX9_passed_36 : decode cX9_passed 36 = .ok (.bipush 30, 2) := by decide +kernel
theorem dX9_passed_38 : decode cX9_passed 38 = .ok (.if_icmp .le 6, 3) := by decide +kernel
theorem dX9_passed_41 : decode cX9_passed 41 = .ok (.ldc 174, 2) := by decide +kernel
theorem dX9_passed_43 : decode cX9_passed 43 = .ok (.ireturn, 1) := by decide +kernel
theorem dX9_passed_44 : decode cX9_passed 44 = .ok (.aload_n 0, 1) := by decide +kernel
theorem dX9_passed_45 : decode cX9_passed 45 = .ok (.getfield 41, 3) := by decide +kernel
theorem dX9_passed_48 : decode cX9_passed 48 = .ok (.aload 5, 2) := by decide +kernel
theorem dX9_passed_50 : decode cX9_passed 50 = .ok (.aload 5, 2) := by decide +kernel
theorem dX9_passed_52 : decode cX9_passed 52 = .ok (.getfield 143, 3) := by decide +kernel
theorem dX9_passed_55 : decode cX9_passed 55 = .ok (.invokevirtual 166, 3) := by decide +kernel
theorem dX9_passed_58 : decode cX9_passed 58 = .ok (.aload_n 0, 1) := by decide +kernel
theorem dX9_passed_59 : decode cX9_passed 59 = .ok (.getfield 34, 3) := by decide +kernel
theorem dX9_passed_62 : decode cX9_passed 62 = .ok (.aload 5, 2) := by decide +kernel
theorem dX9_passed_64 : decode cX9_passed 64 = .ok (.getfield 143, 3) := by decide +kernel
theorem dX9_passed_67 : decode cX9_passed 67 = .ok (.invokevirtual 197, 3) := by decide +kernel
theorem dX9_passed_70 : decode cX9_passed 70 = .ok (.aload_n 0, 1) := by decide +kernel
theorem dX9_passed_71 : decode cX9_passed 71 = .ok (.getfield 34, 3) := by decide +kernel
theorem dX9_passed_74 : decode cX9_passed 74 = .ok (.iload_n 2, 1) := by decide +kernel
theorem dX9_passed_75 : decode cX9_passed 75 = .ok (.putfield 201, 3) := by decide +kernel
theorem dX9_passed_78 : decode cX9_passed 78 = .ok (.aload_n 0, 1) := by decide +kernel
theorem dX9_passed_79 : decode cX9_passed 79 = .ok (.getfield 34, 3) := by decide +kernel
theorem dX9_passed_82 : decode cX9_passed 82 = .ok (.iload_n 3, 1) := by decide +kernel
theorem dX9_passed_83 : decode cX9_passed 83 = .ok (.putfield 204, 3) := by decide +kernel
theorem dX9_passed_86 : decode cX9_passed 86 = .ok (.aload_n 0, 1) := by decide +kernel
theorem dX9_passed_87 : decode cX9_passed 87 = .ok (.getfield 45, 3) := by decide +kernel
theorem dX9_passed_90 : decode cX9_passed 90 = .ok (.aload 5, 2) := by decide +kernel
theorem dX9_passed_92 : decode cX9_passed 92 = .ok (.aload_n 0, 1) := by decide +kernel
theorem dX9_passed_93 : decode cX9_passed 93 = .ok (.getfield 34, 3) := by decide +kernel
theorem dX9_passed_96 : decode cX9_passed 96 = .ok (.invokevirtual 166, 3) := by decide +kernel
theorem dX9_passed_99 : decode cX9_passed 99 = .ok (.aload_n 0, 1) := by decide +kernel
theorem dX9_passed_100 : decode cX9_passed 100 = .ok (.getfield 45, 3) := by decide +kernel
theorem dX9_passed_103 : decode cX9_passed 103 = .ok (.getfield 178, 3) := by decide +kernel
theorem dX9_passed_106 : decode cX9_passed 106 = .ok (.iload 4, 2) := by decide +kernel
theorem dX9_passed_108 : decode cX9_passed 108 = .ok (.iaload, 1) := by decide +kernel
theorem dX9_passed_109 : decode cX9_passed 109 = .ok (.aload_n 0, 1) := by decide +kernel
theorem dX9_passed_110 : decode cX9_passed 110 = .ok (.getfield 41, 3) := by decide +kernel
theorem dX9_passed_113 : decode cX9_passed 113 = .ok (.getfield 178, 3) := by decide +kernel
theorem dX9_passed_116 : decode cX9_passed 116 = .ok (.iload 4, 2) := by decide +kernel
theorem dX9_passed_118 : decode cX9_passed 118 = .ok (.iaload, 1) := by decide +kernel
theorem dX9_passed_119 : decode cX9_passed 119 = .ok (.isub, 1) := by decide +kernel
theorem dX9_passed_120 : decode cX9_passed 120 = .ok (.ireturn, 1) := by decide +kernel
theorem dX9_gain_0 : decode cX9_gain 0 = .ok (.aload_n 0, 1) := by decide +kernel
theorem dX9_gain_1 : decode cX9_gain 1 = .ok (.iload_n 1, 1) := by decide +kernel
theorem dX9_gain_2 : decode cX9_gain 2 = .ok (.invokevirtual 98, 3) := by decide +kernel
theorem dX9_gain_5 : decode cX9_gain 5 = .ok (.astore_n 3, 1) := by decide +kernel
theorem dX9_gain_6 : decode cX9_gain 6 = .ok (.aload_n 3, 1) := by decide +kernel
theorem dX9_gain_7 : decode cX9_gain 7 = .ok (.ifnull 16, 3) := by decide +kernel
theorem dX9_gain_10 : decode cX9_gain 10 = .ok (.iload_n 2, 1) := by decide +kernel
theorem dX9_gain_11 : decode cX9_gain 11 = .ok (.iconst (-1), 1) := by decide +kernel
theorem dX9_gain_12 : decode cX9_gain 12 = .ok (.if_icmp .eq 14, 3) := by decide +kernel
theorem dX9_gain_15 : decode cX9_gain 15 = .ok (.aload_n 3, 1) := by decide +kernel
theorem dX9_gain_16 : decode cX9_gain 16 = .ok (.iload_n 2, 1) := by decide +kernel
theorem dX9_gain_17 : decode cX9_gain 17 = .ok (.invokevirtual 102, 3) := by decide +kernel
theorem dX9_gain_20 : decode cX9_gain 20 = .ok (.ifCond .ne 6, 3) := by decide +kernel
theorem dX9_gain_23 : decode cX9_gain 23 = .ok (.ldc 174, 2) := by decide +kernel
theorem dX9_gain_25 : decode cX9_gain 25 = .ok (.ireturn, 1) := by decide +kernel
theorem dX9_gain_26 : decode cX9_gain 26 = .ok (.aload_n 0, 1) := by decide +kernel
theorem dX9_gain_27 : decode cX9_gain 27 = .ok (.getfield 41, 3) := by decide +kernel
theorem dX9_gain_30 : decode cX9_gain 30 = .ok (.aload_n 3, 1) := by decide +kernel
theorem dX9_gain_31 : decode cX9_gain 31 = .ok (.aload_n 3, 1) := by decide +kernel
theorem dX9_gain_32 : decode cX9_gain 32 = .ok (.getfield 143, 3) := by decide +kernel
theorem dX9_gain_35 : decode cX9_gain 35 = .ok (.invokevirtual 166, 3) := by decide +kernel
theorem dX9_gain_38 : decode cX9_gain 38 = .ok (.aload_n 0, 1) := by decide +kernel
theorem dX9_gain_39 : decode cX9_gain 39 = .ok (.getfield 34, 3) := by decide +kernel
theorem dX9_gain_42 : decode cX9_gain 42 = .ok (.aload_n 3, 1) := by decide +kernel
theorem dX9_gain_43 : decode cX9_gain 43 = .ok (.getfield 143, 3) := by decide +kernel
theorem dX9_gain_46 : decode cX9_gain 46 = .ok (.invokevirtual 197, 3) := by decide +kernel
theorem dX9_gain_49 : decode cX9_gain 49 = .ok (.aload_n 0, 1) := by decide +kernel
theorem dX9_gain_50 : decode cX9_gain 50 = .ok (.getfield 34, 3) := by decide +kernel
theorem dX9_gain_53 : decode cX9_gain 53 = .ok (.bipush 41, 2) := by decide +kernel
theorem dX9_gain_55 : decode cX9_gain 55 = .ok (.putfield 149, 3) := by decide +kernel
theorem dX9_gain_58 : decode cX9_gain 58 = .ok (.aload_n 0, 1) := by decide +kernel
theorem dX9_gain_59 : decode cX9_gain 59 = .ok (.getfield 34, 3) := by decide +kernel
theorem dX9_gain_62 : decode cX9_gain 62 = .ok (.iconst 0, 1) := by decide +kernel
theorem dX9_gain_63 : decode cX9_gain 63 = .ok (.putfield 152, 3) := by decide +kernel
theorem dX9_gain_66 : decode cX9_gain 66 = .ok (.aload_n 0, 1) := by decide +kernel
theorem dX9_gain_67 : decode cX9_gain 67 = .ok (.getfield 45, 3) := by decide +kernel
theorem dX9_gain_70 : decode cX9_gain 70 = .ok (.aload_n 3, 1) := by decide +kernel
theorem dX9_gain_71 : decode cX9_gain 71 = .ok (.aload_n 0, 1) := by decide +kernel
theorem dX9_gain_72 : decode cX9_gain 72 = .ok (.getfield 34, 3) := by decide +kernel
theorem dX9_gain_75 : decode cX9_gain 75 = .ok (.invokevirtual 166, 3) := by decide +kernel
theorem dX9_gain_78 : decode cX9_gain 78 = .ok (.iload_n 2, 1) := by decide +kernel
theorem dX9_gain_79 : decode cX9_gain 79 = .ok (.ifCond .ge 21, 3) := by decide +kernel
theorem dX9_gain_82 : decode cX9_gain 82 = .ok (.aload_n 0, 1) := by decide +kernel
theorem dX9_gain_83 : decode cX9_gain 83 = .ok (.getfield 41, 3) := by decide +kernel
theorem dX9_gain_86 : decode cX9_gain 86 = .ok (.aload_n 3, 1) := by decide +kernel
theorem dX9_gain_87 : decode cX9_gain 87 = .ok (.invokevirtual 190, 3) := by decide +kernel
theorem dX9_gain_90 : decode cX9_gain 90 = .ok (.aload_n 0, 1) := by decide +kernel
theorem dX9_gain_91 : decode cX9_gain 91 = .ok (.getfield 45, 3) := by decide +kernel
theorem dX9_gain_94 : decode cX9_gain 94 = .ok (.aload_n 3, 1) := by decide +kernel
theorem dX9_gain_95 : decode cX9_gain 95 = .ok (.invokevirtual 190, 3) := by decide +kernel
theorem dX9_gain_98 : decode cX9_gain 98 = .ok (.isub, 1) := by decide +kernel
theorem dX9_gain_99 : decode cX9_gain 99 = .ok (.ireturn, 1) := by decide +kernel
theorem dX9_gain_100 : decode cX9_gain 100 = .ok (.aload_n 0, 1) := by decide +kernel
theorem dX9_gain_101 : decode cX9_gain 101 = .ok (.getfield 41, 3) := by decide +kernel
theorem dX9_gain_104 : decode cX9_gain 104 = .ok (.getfield 184, 3) := by decide +kernel
theorem dX9_gain_107 : decode cX9_gain 107 = .ok (.iload_n 2, 1) := by decide +kernel
theorem dX9_gain_108 : decode cX9_gain 108 = .ok (.iaload, 1) := by decide +kernel
theorem dX9_gain_109 : decode cX9_gain 109 = .ok (.aload_n 0, 1) := by decide +kernel
theorem dX9_gain_110 : decode cX9_gain 110 = .ok (.getfield 45, 3) := by decide +kernel
theorem dX9_gain_113 : decode cX9_gain 113 = .ok (.getfield 184, 3) := by decide +kernel
theorem dX9_gain_116 : decode cX9_gain 116 = .ok (.iload_n 2, 1) := by decide +kernel
theorem dX9_gain_117 : decode cX9_gain 117 = .ok (.iaload, 1) := by decide +kernel
theorem dX9_gain_118 : decode cX9_gain 118 = .ok (.isub, 1) := by decide +kernel
theorem dX9_gain_119 : decode cX9_gain 119 = .ok (.ireturn, 1) := by decide +kernel
theorem dX9_tell_0 : decode cX9_tell 0 = .ok (.aload_n 0, 1) := by decide +kernel
theorem dX9_tell_1 : decode cX9_tell 1 = .ok (.iload_n 1, 1) := by decide +kernel
theorem dX9_tell_2 : decode cX9_tell 2 = .ok (.invokevirtual 98, 3) := by decide +kernel
theorem dX9_tell_5 : decode cX9_tell 5 = .ok (.astore 5, 2) := by decide +kernel
theorem dX9_tell_7 : decode cX9_tell 7 = .ok (.aload 5, 2) := by decide +kernel
theorem dX9_tell_9 : decode cX9_tell 9 = .ok (.ifnull 20, 3) := by decide +kernel
theorem dX9_tell_12 : decode cX9_tell 12 = .ok (.aload 5, 2) := by decide +kernel
theorem dX9_tell_14 : decode cX9_tell 14 = .ok (.iload_n 2, 1) := by decide +kernel
theorem dX9_tell_15 : decode cX9_tell 15 = .ok (.invokevirtual 102, 3) := by decide +kernel
theorem dX9_tell_18 : decode cX9_tell 18 = .ok (.ifCond .eq 11, 3) := by decide +kernel
theorem dX9_tell_21 : decode cX9_tell 21 = .ok (.iload 4, 2) := by decide +kernel
theorem dX9_tell_23 : decode cX9_tell 23 = .ok (.invokestatic 136, 3) := by decide +kernel
theorem dX9_tell_26 : decode cX9_tell 26 = .ok (.ifCond .ne 5, 3) := by decide +kernel
theorem dX9_tell_29 : decode cX9_tell 29 = .ok (.iconst 0, 1) := by decide +kernel
theorem dX9_tell_30 : decode cX9_tell 30 = .ok (.ireturn, 1) := by decide +kernel
theorem dX9_tell_31 : decode cX9_tell 31 = .ok (.iload_n 3, 1) := by decide +kernel
theorem dX9_tell_32 : decode cX9_tell 32 = .ok (.ifCond .eq 15, 3) := by decide +kernel
theorem dX9_tell_35 : decode cX9_tell 35 = .ok (.aload 5, 2) := by decide +kernel
theorem dX9_tell_37 : decode cX9_tell 37 = .ok (.getfield 207, 3) := by decide +kernel
theorem dX9_tell_40 : decode cX9_tell 40 = .ok (.iload_n 2, 1) := by decide +kernel
theorem dX9_tell_41 : decode cX9_tell 41 = .ok (.iload 4, 2) := by decide +kernel
theorem dX9_tell_43 : decode cX9_tell 43 = .ok (.iastore, 1) := by decide +kernel
theorem dX9_tell_44 : decode cX9_tell 44 = .ok (.goto 12, 3) := by decide +kernel
theorem dX9_tell_47 : decode cX9_tell 47 = .ok (.aload 5, 2) := by decide +kernel
theorem dX9_tell_49 : decode cX9_tell 49 = .ok (.getfield 210, 3) := by decide +kernel
theorem dX9_tell_52 : decode cX9_tell 52 = .ok (.iload_n 2, 1) := by decide +kernel
theorem dX9_tell_53 : decode cX9_tell 53 = .ok (.iload 4, 2) := by decide +kernel
theorem dX9_tell_55 : decode cX9_tell 55 = .ok (.iastore, 1) := by decide +kernel
theorem dX9_tell_56 : decode cX9_tell 56 = .ok (.iconst 1, 1) := by decide +kernel
theorem dX9_tell_57 : decode cX9_tell 57 = .ok (.ireturn, 1) := by decide +kernel
theorem dX9_given_0 : decode cX9_given 0 = .ok (.aload_n 0, 1) := by decide +kernel
theorem dX9_given_1 : decode cX9_given 1 = .ok (.iload_n 1, 1) := by decide +kernel
theorem dX9_given_2 : decode cX9_given 2 = .ok (.invokevirtual 98, 3) := by decide +kernel
theorem dX9_given_5 : decode cX9_given 5 = .ok (.astore_n 3, 1) := by decide +kernel
theorem dX9_given_6 : decode cX9_given 6 = .ok (.aload_n 3, 1) := by decide +kernel
theorem dX9_given_7 : decode cX9_given 7 = .ok (.ifnull 11, 3) := by decide +kernel
theorem dX9_given_10 : decode cX9_given 10 = .ok (.aload_n 3, 1) := by decide +kernel
theorem dX9_given_11 : decode cX9_given 11 = .ok (.iload_n 2, 1) := by decide +kernel
theorem dX9_given_12 : decode cX9_given 12 = .ok (.invokevirtual 102, 3) := by decide +kernel
theorem dX9_given_15 : decode cX9_given 15 = .ok (.ifCond .ne 6, 3) := by decide +kernel
theorem dX9_given_18 : decode cX9_given 18 = .ok (.ldc 174, 2) := by decide +kernel
theorem dX9_given_20 : decode cX9_given 20 = .ok (.ireturn, 1) := by decide +kernel
theorem dX9_given_21 : decode cX9_given 21 = .ok (.aload_n 0, 1) := by decide +kernel
theorem dX9_given_22 : decode cX9_given 22 = .ok (.getfield 51, 3) := by decide +kernel
theorem dX9_given_25 : decode cX9_given 25 = .ok (.aload_n 3, 1) := by decide +kernel
theorem dX9_given_26 : decode cX9_given 26 = .ok (.invokevirtual 213, 3) := by decide +kernel
theorem dX9_given_29 : decode cX9_given 29 = .ok (.aload_n 0, 1) := by decide +kernel
theorem dX9_given_30 : decode cX9_given 30 = .ok (.getfield 51, 3) := by decide +kernel
theorem dX9_given_33 : decode cX9_given 33 = .ok (.aload_n 3, 1) := by decide +kernel
theorem dX9_given_34 : decode cX9_given 34 = .ok (.iload_n 2, 1) := by decide +kernel
theorem dX9_given_35 : decode cX9_given 35 = .ok (.invokevirtual 217, 3) := by decide +kernel
theorem dX9_given_38 : decode cX9_given 38 = .ok (.ireturn, 1) := by decide +kernel
theorem dX9_doers_0 : decode cX9_doers 0 = .ok (.aload_n 0, 1) := by decide +kernel
theorem dX9_doers_1 : decode cX9_doers 1 = .ok (.iload_n 1, 1) := by decide +kernel
theorem dX9_doers_2 : decode cX9_doers 2 = .ok (.invokevirtual 98, 3) := by decide +kernel
theorem dX9_doers_5 : decode cX9_doers 5 = .ok (.astore_n 2, 1) := by decide +kernel
theorem dX9_doers_6 : decode cX9_doers 6 = .ok (.aload_n 2, 1) := by decide +kernel
theorem dX9_doers_7 : decode cX9_doers 7 = .ok (.ifnonnull 5, 3) := by decide +kernel
theorem dX9_doers_10 : decode cX9_doers 10 = .ok (.iconst (-1), 1) := by decide +kernel
theorem dX9_doers_11 : decode cX9_doers 11 = .ok (.ireturn, 1) := by decide +kernel
theorem dX9_doers_12 : decode cX9_doers 12 = .ok (.aload_n 0, 1) := by decide +kernel
theorem dX9_doers_13 : decode cX9_doers 13 = .ok (.getfield 51, 3) := by decide +kernel
theorem dX9_doers_16 : decode cX9_doers 16 = .ok (.aload_n 2, 1) := by decide +kernel
theorem dX9_doers_17 : decode cX9_doers 17 = .ok (.invokevirtual 213, 3) := by decide +kernel
theorem dX9_doers_20 : decode cX9_doers 20 = .ok (.aload_n 0, 1) := by decide +kernel
theorem dX9_doers_21 : decode cX9_doers 21 = .ok (.aload_n 2, 1) := by decide +kernel
theorem dX9_doers_22 : decode cX9_doers 22 = .ok (.invokevirtual 221, 3) := by decide +kernel
theorem dX9_doers_25 : decode cX9_doers 25 = .ok (.aload_n 0, 1) := by decide +kernel
theorem dX9_doers_26 : decode cX9_doers 26 = .ok (.getfield 51, 3) := by decide +kernel
theorem dX9_doers_29 : decode cX9_doers 29 = .ok (.aload_n 2, 1) := by decide +kernel
theorem dX9_doers_30 : decode cX9_doers 30 = .ok (.aload_n 0, 1) := by decide +kernel
theorem dX9_doers_31 : decode cX9_doers 31 = .ok (.getfield 45, 3) := by decide +kernel
theorem dX9_doers_34 : decode cX9_doers 34 = .ok (.invokevirtual 224, 3) := by decide +kernel
theorem dX9_doers_37 : decode cX9_doers 37 = .ok (.ireturn, 1) := by decide +kernel
theorem dX9_fee_0 : decode cX9_fee 0 = .ok (.aload_n 0, 1) := by decide +kernel
theorem dX9_fee_1 : decode cX9_fee 1 = .ok (.iload_n 1, 1) := by decide +kernel
theorem dX9_fee_2 : decode cX9_fee 2 = .ok (.invokevirtual 98, 3) := by decide +kernel
theorem dX9_fee_5 : decode cX9_fee 5 = .ok (.astore 4, 2) := by decide +kernel
theorem dX9_fee_7 : decode cX9_fee 7 = .ok (.aload 4, 2) := by decide +kernel
theorem dX9_fee_9 : decode cX9_fee 9 = .ok (.ifnull 21, 3) := by decide +kernel
theorem dX9_fee_12 : decode cX9_fee 12 = .ok (.aload 4, 2) := by decide +kernel
theorem dX9_fee_14 : decode cX9_fee 14 = .ok (.iload_n 2, 1) := by decide +kernel
theorem dX9_fee_15 : decode cX9_fee 15 = .ok (.invokevirtual 102, 3) := by decide +kernel
theorem dX9_fee_18 : decode cX9_fee 18 = .ok (.ifCond .eq 12, 3) := by decide +kernel
theorem dX9_fee_21 : decode cX9_fee 21 = .ok (.iload_n 3, 1) := by decide +kernel
theorem dX9_fee_22 : decode cX9_fee 22 = .ok (.ifCond .lt 8, 3) := by decide +kernel
theorem dX9_fee_25 : decode cX9_fee 25 = .ok (.iload_n 3, 1) := by decide +kernel
theorem dX9_fee_26 : decode cX9_fee 26 = .ok (.iconst 1, 1) := by decide +kernel
theorem dX9_fee_27 : decode cX9_fee 27 = .ok (.if_icmp .le 6, 3) := by decide +kernel
theorem dX9_fee_30 : decode cX9_fee 30 = .ok (.ldc 174, 2) := by decide +kernel
theorem dX9_fee_32 : decode cX9_fee 32 = .ok (.ireturn, 1) := by decide +kernel
theorem dX9_fee_33 : decode cX9_fee 33 = .ok (.aload_n 0, 1) := by decide +kernel
theorem dX9_fee_34 : decode cX9_fee 34 = .ok (.aload 4, 2) := by decide +kernel
theorem dX9_fee_36 : decode cX9_fee 36 = .ok (.bipush 41, 2) := by decide +kernel
theorem dX9_fee_38 : decode cX9_fee 38 = .ok (.invokevirtual 193, 3) := by decide +kernel
theorem dX9_fee_41 : decode cX9_fee 41 = .ok (.iload_n 3, 1) := by decide +kernel
theorem dX9_fee_42 : decode cX9_fee 42 = .ok (.ifCond .ne 18, 3) := by decide +kernel
theorem dX9_fee_45 : decode cX9_fee 45 = .ok (.aload_n 0, 1) := by decide +kernel
theorem dX9_fee_46 : decode cX9_fee 46 = .ok (.getfield 58, 3) := by decide +kernel
theorem dX9_fee_49 : decode cX9_fee 49 = .ok (.aload 4, 2) := by decide +kernel
theorem dX9_fee_51 : decode cX9_fee 51 = .ok (.aload_n 0, 1) := by decide +kernel
theorem dX9_fee_52 : decode cX9_fee 52 = .ok (.getfield 45, 3) := by decide +kernel
theorem dX9_fee_55 : decode cX9_fee 55 = .ok (.iload_n 2, 1) := by decide +kernel
theorem dX9_fee_56 : decode cX9_fee 56 = .ok (.invokevirtual 228, 3) := by decide +kernel
theorem dX9_fee_59 : decode cX9_fee 59 = .ok (.ireturn, 1) := by decide +kernel
theorem dX9_fee_60 : decode cX9_fee 60 = .ok (.aload_n 0, 1) := by decide +kernel
theorem dX9_fee_61 : decode cX9_fee 61 = .ok (.getfield 58, 3) := by decide +kernel
theorem dX9_fee_64 : decode cX9_fee 64 = .ok (.aload 4, 2) := by decide +kernel
theorem dX9_fee_66 : decode cX9_fee 66 = .ok (.aload_n 0, 1) := by decide +kernel
theorem dX9_fee_67 : decode cX9_fee 67 = .ok (.getfield 45, 3) := by decide +kernel
theorem dX9_fee_70 : decode cX9_fee 70 = .ok (.invokevirtual 232, 3) := by decide +kernel
theorem dX9_fee_73 : decode cX9_fee 73 = .ok (.ifCond .eq 7, 3) := by decide +kernel
theorem dX9_fee_76 : decode cX9_fee 76 = .ok (.iconst 1, 1) := by decide +kernel
theorem dX9_fee_77 : decode cX9_fee 77 = .ok (.goto 4, 3) := by decide +kernel
theorem dX9_fee_80 : decode cX9_fee 80 = .ok (.iconst 0, 1) := by decide +kernel
theorem dX9_fee_81 : decode cX9_fee 81 = .ok (.ireturn, 1) := by decide +kernel
theorem dX9_parts_0 : decode cX9_parts 0 = .ok (.aload_n 0, 1) := by decide +kernel
theorem dX9_parts_1 : decode cX9_parts 1 = .ok (.iload_n 1, 1) := by decide +kernel
theorem dX9_parts_2 : decode cX9_parts 2 = .ok (.iload_n 2, 1) := by decide +kernel
theorem dX9_parts_3 : decode cX9_parts 3 = .ok (.invokevirtual 236, 3) := by decide +kernel
theorem dX9_parts_6 : decode cX9_parts 6 = .ok (.astore 4, 2) := by decide +kernel
theorem dX9_parts_8 : decode cX9_parts 8 = .ok (.aload 4, 2) := by decide +kernel
theorem dX9_parts_10 : decode cX9_parts 10 = .ok (.ifnonnull 5, 3) := by decide +kernel
theorem dX9_parts_13 : decode cX9_parts 13 = .ok (.iconst (-1), 1) := by decide +kernel
theorem dX9_parts_14 : decode cX9_parts 14 = .ok (.ireturn, 1) := by decide +kernel
theorem dX9_parts_15 : decode cX9_parts 15 = .ok (.aload_n 0, 1) := by decide +kernel
theorem dX9_parts_16 : decode cX9_parts 16 = .ok (.aload 4, 2) := by decide +kernel
theorem dX9_parts_18 : decode cX9_parts 18 = .ok (.bipush 41, 2) := by decide +kernel
theorem dX9_parts_20 : decode cX9_parts 20 = .ok (.invokevirtual 193, 3) := by decide +kernel
theorem dX9_parts_23 : decode cX9_parts 23 = .ok (.aload_n 0, 1) := by decide +kernel
theorem dX9_parts_24 : decode cX9_parts 24 = .ok (.getfield 58, 3) := by decide +kernel
theorem dX9_parts_27 : decode cX9_parts 27 = .ok (.aload 4, 2) := by decide +kernel
theorem dX9_parts_29 : decode cX9_parts 29 = .ok (.iload_n 2, 1) := by decide +kernel
theorem dX9_parts_30 : decode cX9_parts 30 = .ok (.aload_n 0, 1) := by decide +kernel
theorem dX9_parts_31 : decode cX9_parts 31 = .ok (.getfield 45, 3) := by decide +kernel
theorem dX9_parts_34 : decode cX9_parts 34 = .ok (.getfield 178, 3) := by decide +kernel
theorem dX9_parts_37 : decode cX9_parts 37 = .ok (.iload_n 2, 1) := by decide +kernel
theorem dX9_parts_38 : decode cX9_parts 38 = .ok (.iaload, 1) := by decide +kernel
theorem dX9_parts_39 : decode cX9_parts 39 = .ok (.invokevirtual 240, 3) := by decide +kernel
theorem dX9_parts_42 : decode cX9_parts 42 = .ok (.iload_n 3, 1) := by decide +kernel
theorem dX9_parts_43 : decode cX9_parts 43 = .ok (.iconst (-1), 1) := by decide +kernel
theorem dX9_parts_44 : decode cX9_parts 44 = .ok (.if_icmp .ne 11, 3) := by decide +kernel
theorem dX9_parts_47 : decode cX9_parts 47 = .ok (.aload_n 0, 1) := by decide +kernel
theorem dX9_parts_48 : decode cX9_parts 48 = .ok (.getfield 58, 3) := by decide +kernel
theorem dX9_parts_51 : decode cX9_parts 51 = .ok (.getfield 244, 3) := by decide +kernel
theorem dX9_parts_54 : decode cX9_parts 54 = .ok (.ireturn, 1) := by decide +kernel
theorem dX9_parts_55 : decode cX9_parts 55 = .ok (.iload_n 3, 1) := by decide +kernel
theorem dX9_parts_56 : decode cX9_parts 56 = .ok (.ifCond .lt 14, 3) := by decide +kernel
theorem dX9_parts_59 : decode cX9_parts 59 = .ok (.iload_n 3, 1) := by decide +kernel
theorem dX9_parts_60 : decode cX9_parts 60 = .ok (.aload_n 0, 1) := by decide +kernel
theorem dX9_parts_61 : decode cX9_parts 61 = .ok (.getfield 58, 3) := by decide +kernel
theorem dX9_parts_64 : decode cX9_parts 64 = .ok (.getfield 244, 3) := by decide +kernel
theorem dX9_parts_67 : decode cX9_parts 67 = .ok (.if_icmp .lt 7, 3) := by decide +kernel
theorem dX9_parts_70 : decode cX9_parts 70 = .ok (.iconst (-1), 1) := by decide +kernel
theorem dX9_parts_71 : decode cX9_parts 71 = .ok (.goto 12, 3) := by decide +kernel
theorem dX9_parts_74 : decode cX9_parts 74 = .ok (.aload_n 0, 1) := by decide +kernel
theorem dX9_parts_75 : decode cX9_parts 75 = .ok (.getfield 58, 3) := by decide +kernel
theorem dX9_parts_78 : decode cX9_parts 78 = .ok (.getfield 247, 3) := by decide +kernel
theorem dX9_parts_81 : decode cX9_parts 81 = .ok (.iload_n 3, 1) := by decide +kernel
theorem dX9_parts_82 : decode cX9_parts 82 = .ok (.iaload, 1) := by decide +kernel
theorem dX9_parts_83 : decode cX9_parts 83 = .ok (.ireturn, 1) := by decide +kernel
theorem dX9_takings_0 : decode cX9_takings 0 = .ok (.aload_n 0, 1) := by decide +kernel
theorem dX9_takings_1 : decode cX9_takings 1 = .ok (.iload_n 1, 1) := by decide +kernel
theorem dX9_takings_2 : decode cX9_takings 2 = .ok (.iload_n 2, 1) := by decide +kernel
theorem dX9_takings_3 : decode cX9_takings 3 = .ok (.invokevirtual 236, 3) := by decide +kernel
theorem dX9_takings_6 : decode cX9_takings 6 = .ok (.astore 4, 2) := by decide +kernel
theorem dX9_takings_8 : decode cX9_takings 8 = .ok (.aload 4, 2) := by decide +kernel
theorem dX9_takings_10 : decode cX9_takings 10 = .ok (.ifnonnull 6, 3) := by decide +kernel
theorem dX9_takings_13 : decode cX9_takings 13 = .ok (.ldc 174, 2) := by decide +kernel
theorem dX9_takings_15 : decode cX9_takings 15 = .ok (.ireturn, 1) := by decide +kernel
theorem dX9_takings_16 : decode cX9_takings 16 = .ok (.aload_n 0, 1) := by decide +kernel
theorem dX9_takings_17 : decode cX9_takings 17 = .ok (.aload 4, 2) := by decide +kernel
theorem dX9_takings_19 : decode cX9_takings 19 = .ok (.bipush 41, 2) := by decide +kernel
theorem dX9_takings_21 : decode cX9_takings 21 = .ok (.invokevirtual 193, 3) := by decide +kernel
theorem dX9_takings_24 : decode cX9_takings 24 = .ok (.aload_n 0, 1) := by decide +kernel
theorem dX9_takings_25 : decode cX9_takings 25 = .ok (.getfield 58, 3) := by decide +kernel
theorem dX9_takings_28 : decode cX9_takings 28 = .ok (.aload 4, 2) := by decide +kernel
theorem dX9_takings_30 : decode cX9_takings 30 = .ok (.iload_n 2, 1) := by decide +kernel
theorem dX9_takings_31 : decode cX9_takings 31 = .ok (.aload_n 0, 1) := by decide +kernel
theorem dX9_takings_32 : decode cX9_takings 32 = .ok (.getfield 45, 3) := by decide +kernel
theorem dX9_takings_35 : decode cX9_takings 35 = .ok (.getfield 178, 3) := by decide +kernel
theorem dX9_takings_38 : decode cX9_takings 38 = .ok (.iload_n 2, 1) := by decide +kernel
theorem dX9_takings_39 : decode cX9_takings 39 = .ok (.iaload, 1) := by decide +kernel
theorem dX9_takings_40 : decode cX9_takings 40 = .ok (.invokevirtual 240, 3) := by decide +kernel
theorem dX9_takings_43 : decode cX9_takings 43 = .ok (.iload_n 3, 1) := by decide +kernel
theorem dX9_takings_44 : decode cX9_takings 44 = .ok (.ifCond .lt 14, 3) := by decide +kernel
theorem dX9_takings_47 : decode cX9_takings 47 = .ok (.iload_n 3, 1) := by decide +kernel
theorem dX9_takings_48 : decode cX9_takings 48 = .ok (.aload_n 0, 1) := by decide +kernel
theorem dX9_takings_49 : decode cX9_takings 49 = .ok (.getfield 58, 3) := by decide +kernel
theorem dX9_takings_52 : decode cX9_takings 52 = .ok (.getfield 244, 3) := by decide +kernel
theorem dX9_takings_55 : decode cX9_takings 55 = .ok (.if_icmp .lt 6, 3) := by decide +kernel
theorem dX9_takings_58 : decode cX9_takings 58 = .ok (.ldc 174, 2) := by decide +kernel
theorem dX9_takings_60 : decode cX9_takings 60 = .ok (.ireturn, 1) := by decide +kernel
theorem dX9_takings_61 : decode cX9_takings 61 = .ok (.aload_n 0, 1) := by decide +kernel
theorem dX9_takings_62 : decode cX9_takings 62 = .ok (.getfield 58, 3) := by decide +kernel
theorem dX9_takings_65 : decode cX9_takings 65 = .ok (.aload 4, 2) := by decide +kernel
theorem dX9_takings_67 : decode cX9_takings 67 = .ok (.iload_n 2, 1) := by decide +kernel
theorem dX9_takings_68 : decode cX9_takings 68 = .ok (.aload_n 0, 1) := by decide +kernel
theorem dX9_takings_69 : decode cX9_takings 69 = .ok (.getfield 58, 3) := by decide +kernel
theorem dX9_takings_72 : decode cX9_takings 72 = .ok (.getfield 247, 3) := by decide +kernel
theorem dX9_takings_75 : decode cX9_takings 75 = .ok (.iload_n 3, 1) := by decide +kernel
theorem dX9_takings_76 : decode cX9_takings 76 = .ok (.iaload, 1) := by decide +kernel
theorem dX9_takings_77 : decode cX9_takings 77 = .ok (.aload_n 0, 1) := by decide +kernel
theorem dX9_takings_78 : decode cX9_takings 78 = .ok (.getfield 45, 3) := by decide +kernel
theorem dX9_takings_81 : decode cX9_takings 81 = .ok (.invokevirtual 250, 3) := by decide +kernel
theorem dX9_takings_84 : decode cX9_takings 84 = .ok (.ireturn, 1) := by decide +kernel
theorem dX9_rivals_0 : decode cX9_rivals 0 = .ok (.aload_n 0, 1) := by decide +kernel
theorem dX9_rivals_1 : decode cX9_rivals 1 = .ok (.iload_n 1, 1) := by decide +kernel
theorem dX9_rivals_2 : decode cX9_rivals 2 = .ok (.invokevirtual 98, 3) := by decide +kernel
theorem dX9_rivals_5 : decode cX9_rivals 5 = .ok (.astore 7, 2) := by decide +kernel
theorem dX9_rivals_7 : decode cX9_rivals 7 = .ok (.aload 7, 2) := by decide +kernel
theorem dX9_rivals_9 : decode cX9_rivals 9 = .ok (.ifnull 42, 3) := by decide +kernel
theorem dX9_rivals_12 : decode cX9_rivals 12 = .ok (.aload 7, 2) := by decide +kernel
theorem dX9_rivals_14 : decode cX9_rivals 14 = .ok (.iload_n 2, 1) := by decide +kernel
theorem dX9_rivals_15 : decode cX9_rivals 15 = .ok (.invokevirtual 126, 3) := by decide +kernel
theorem dX9_rivals_18 : decode cX9_rivals 18 = .ok (.ifCond .eq 33, 3) := by decide +kernel
theorem dX9_rivals_21 : decode cX9_rivals 21 = .ok (.aload 7, 2) := by decide +kernel
theorem dX9_rivals_23 : decode cX9_rivals 23 = .ok (.iload_n 3, 1) := by decide +kernel
theorem dX9_rivals_24 : decode cX9_rivals 24 = .ok (.invokevirtual 126, 3) := by decide +kernel
theorem dX9_rivals_27 : decode cX9_rivals 27 = .ok (.ifCond .eq 24, 3) := by decide +kernel
theorem dX9_rivals_30 : decode cX9_rivals 30 = .ok (.iload_n 2, 1) := by decide +kernel
theorem dX9_rivals_31 : decode cX9_rivals 31 = .ok (.iload_n 3, 1) := by decide +kernel
theorem dX9_rivals_32 : decode cX9_rivals 32 = .ok (.if_icmp .eq 19, 3) := by decide +kernel
theorem dX9_rivals_35 : decode cX9_rivals 35 = .ok (.iload 4, 2) := by decide +kernel
theorem dX9_rivals_37 : decode cX9_rivals 37 = .ok (.invokestatic 136, 3) := by decide +kernel
theorem dX9_rivals_40 : decode cX9_rivals 40 = .ok (.ifCond .eq 11, 3) := by decide +kernel
theorem dX9_rivals_43 : decode cX9_rivals 43 = .ok (.iload 5, 2) := by decide +kernel
theorem dX9_rivals_45 : decode cX9_rivals 45 = .ok (.invokestatic 136, 3) := by decide +kernel
theorem dX9_rivals_48 : decode cX9_rivals 48 = .ok (.ifCond .ne 5, 3) := by decide +kernel
theorem dX9_rivals_51 : decode cX9_rivals 51 = .ok (.iconst (-1), 1) := by decide +kernel
theorem dX9_rivals_52 : decode cX9_rivals 52 = .ok (.ireturn, 1) := by decide +kernel
theorem dX9_rivals_53 : decode cX9_rivals 53 = .ok (.aload_n 0, 1) := by decide +kernel
theorem dX9_rivals_54 : decode cX9_rivals 54 = .ok (.getfield 65, 3) := by decide +kernel
theorem dX9_rivals_57 : decode cX9_rivals 57 = .ok (.aload 7, 2) := by decide +kernel
theorem dX9_rivals_59 : decode cX9_rivals 59 = .ok (.getfield 129, 3) := by decide +kernel
theorem dX9_rivals_62 : decode cX9_rivals 62 = .ok (.iload_n 2, 1) := by decide +kernel
theorem dX9_rivals_63 : decode cX9_rivals 63 = .ok (.aaload, 1) := by decide +kernel
theorem dX9_rivals_64 : decode cX9_rivals 64 = .ok (.aload 7, 2) := by decide +kernel
theorem dX9_rivals_66 : decode cX9_rivals 66 = .ok (.getfield 129, 3) := by decide +kernel
theorem dX9_rivals_69 : decode cX9_rivals 69 = .ok (.iload_n 3, 1) := by decide +kernel
theorem dX9_rivals_70 : decode cX9_rivals 70 = .ok (.aaload, 1) := by decide +kernel
theorem dX9_rivals_71 : decode cX9_rivals 71 = .ok (.iload 4, 2) := by decide +kernel
theorem dX9_rivals_73 : decode cX9_rivals 73 = .ok (.iload 5, 2) := by decide +kernel
theorem dX9_rivals_75 : decode cX9_rivals 75 = .ok (.invokevirtual 254, 3) := by decide +kernel
theorem dX9_rivals_78 : decode cX9_rivals 78 = .ok (.aload_n 0, 1) := by decide +kernel
theorem dX9_rivals_79 : decode cX9_rivals 79 = .ok (.getfield 65, 3) := by decide +kernel
theorem dX9_rivals_82 : decode cX9_rivals 82 = .ok (.iload 6, 2) := by decide +kernel
theorem dX9_rivals_84 : decode cX9_rivals 84 = .ok (.invokevirtual 258, 3) := by decide +kernel
theorem dX9_rivals_87 : decode cX9_rivals 87 = .ok (.ireturn, 1) := by decide +kernel
theorem dX9_makers_0 : decode cX9_makers 0 = .ok (.aload_n 0, 1) := by decide +kernel
theorem dX9_makers_1 : decode cX9_makers 1 = .ok (.iload_n 1, 1) := by decide +kernel
theorem dX9_makers_2 : decode cX9_makers 2 = .ok (.invokevirtual 98, 3) := by decide +kernel
theorem dX9_makers_5 : decode cX9_makers 5 = .ok (.astore 6, 2) := by decide +kernel
theorem dX9_makers_7 : decode cX9_makers 7 = .ok (.aload 6, 2) := by decide +kernel
theorem dX9_makers_9 : decode cX9_makers 9 = .ok (.ifnull 31, 3) := by decide +kernel
theorem dX9_makers_12 : decode cX9_makers 12 = .ok (.aload 6, 2) := by decide +kernel
theorem dX9_makers_14 : decode cX9_makers 14 = .ok (.iload_n 2, 1) := by decide +kernel
theorem dX9_makers_15 : decode cX9_makers 15 = .ok (.invokevirtual 102, 3) := by decide +kernel
theorem dX9_makers_18 : decode cX9_makers 18 = .ok (.ifCond .eq 22, 3) := by decide +kernel
theorem dX9_makers_21 : decode cX9_makers 21 = .ok (.aload 6, 2) := by decide +kernel
theorem dX9_makers_23 : decode cX9_makers 23 = .ok (.iload_n 3, 1) := by decide +kernel
theorem dX9_makers_24 : decode cX9_makers 24 = .ok (.invokevirtual 102, 3) := by decide +kernel
theorem dX9_makers_27 : decode cX9_makers 27 = .ok (.ifCond .eq 13, 3) := by decide +kernel
theorem dX9_makers_30 : decode cX9_makers 30 = .ok (.aload 6, 2) := by decide +kernel
theorem dX9_makers_32 : decode cX9_makers 32 = .ok (.iload 4, 2) := by decide +kernel
theorem dX9_makers_34 : decode cX9_makers 34 = .ok (.invokevirtual 126, 3) := by decide +kernel
theorem dX9_makers_37 : decode cX9_makers 37 = .ok (.ifCond .ne 5, 3) := by decide +kernel
theorem dX9_makers_40 : decode cX9_makers 40 = .ok (.iconst (-1), 1) := by decide +kernel
theorem dX9_makers_41 : decode cX9_makers 41 = .ok (.ireturn, 1) := by decide +kernel
theorem dX9_makers_42 : decode cX9_makers 42 = .ok (.iload_n 2, 1) := by decide +kernel
theorem dX9_makers_43 : decode cX9_makers 43 = .ok (.iload_n 3, 1) := by decide +kernel
theorem dX9_makers_44 : decode cX9_makers 44 = .ok (.if_icmp .eq 15, 3) := by decide +kernel
theorem dX9_makers_47 : decode cX9_makers 47 = .ok (.iload_n 2, 1) := by decide +kernel
theorem dX9_makers_48 : decode cX9_makers 48 = .ok (.iload 4, 2) := by decide +kernel
theorem dX9_makers_50 : decode cX9_makers 50 = .ok (.if_icmp .eq 9, 3) := by decide +kernel
theorem dX9_makers_53 : decode cX9_makers 53 = .ok (.iload_n 3, 1) := by decide +kernel
theorem dX9_makers_54 : decode cX9_makers 54 = .ok (.iload 4, 2) := by decide +kernel
theorem dX9_makers_56 : decode cX9_makers 56 = .ok (.if_icmp .ne 5, 3) := by decide +kernel
theorem dX9_makers_59 : decode cX9_makers 59 = .ok (.iconst (-1), 1) := by decide +kernel
theorem dX9_makers_60 : decode cX9_makers 60 = .ok (.ireturn, 1) := by decide +kernel
theorem dX9_makers_61 : decode cX9_makers 61 = .ok (.aload_n 0, 1) := by decide +kernel
theorem dX9_makers_62 : decode cX9_makers 62 = .ok (.getfield 65, 3) := by decide +kernel
theorem dX9_makers_65 : decode cX9_makers 65 = .ok (.aload 6, 2) := by decide +kernel
theorem dX9_makers_67 : decode cX9_makers 67 = .ok (.iload_n 2, 1) := by decide +kernel
theorem dX9_makers_68 : decode cX9_makers 68 = .ok (.iload_n 3, 1) := by decide +kernel
theorem dX9_makers_69 : decode cX9_makers 69 = .ok (.iload 4, 2) := by decide +kernel
theorem dX9_makers_71 : decode cX9_makers 71 = .ok (.invokevirtual 261, 3) := by decide +kernel
theorem dX9_makers_74 : decode cX9_makers 74 = .ok (.aload_n 0, 1) := by decide +kernel
theorem dX9_makers_75 : decode cX9_makers 75 = .ok (.getfield 65, 3) := by decide +kernel
theorem dX9_makers_78 : decode cX9_makers 78 = .ok (.iload 5, 2) := by decide +kernel
theorem dX9_makers_80 : decode cX9_makers 80 = .ok (.invokevirtual 258, 3) := by decide +kernel
theorem dX9_makers_83 : decode cX9_makers 83 = .ok (.ireturn, 1) := by decide +kernel
theorem dX9_chance_0 : decode cX9_chance 0 = .ok (.iload_n 1, 1) := by decide +kernel
theorem dX9_chance_1 : decode cX9_chance 1 = .ok (.ifCond .lt 20, 3) := by decide +kernel
theorem dX9_chance_4 : decode cX9_chance 4 = .ok (.iload_n 1, 1) := by decide +kernel
theorem dX9_chance_5 : decode cX9_chance 5 = .ok (.bipush 60, 2) := by decide +kernel
theorem dX9_chance_7 : decode cX9_chance 7 = .ok (.if_icmp .gt 14, 3) := by decide +kernel
theorem dX9_chance_10 : decode cX9_chance 10 = .ok (.iload_n 2, 1) := by decide +kernel
theorem dX9_chance_11 : decode cX9_chance 11 = .ok (.iconst 1, 1) := by decide +kernel
theorem dX9_chance_12 : decode cX9_chance 12 = .ok (.if_icmp .lt 9, 3) := by decide +kernel
theorem dX9_chance_15 : decode cX9_chance 15 = .ok (.iload_n 2, 1) := by decide +kernel
theorem dX9_chance_16 : decode cX9_chance 16 = .ok (.bipush 99, 2) := by decide +kernel
theorem dX9_chance_18 : decode cX9_chance 18 = .ok (.if_icmp .le 5, 3) := by decide +kernel
theorem dX9_chance_21 : decode cX9_chance 21 = .ok (.iconst (-1), 1) := by decide +kernel
theorem dX9_chance_22 : decode cX9_chance 22 = .ok (.ireturn, 1) := by decide +kernel
theorem dX9_chance_23 : decode cX9_chance 23 = .ok (.aload_n 0, 1) := by decide +kernel
theorem dX9_chance_24 : decode cX9_chance 24 = .ok (.getfield 79, 3) := by decide +kernel
theorem dX9_chance_27 : decode cX9_chance 27 = .ok (.iload_n 1, 1) := by decide +kernel
theorem dX9_chance_28 : decode cX9_chance 28 = .ok (.iload_n 2, 1) := by decide +kernel
theorem dX9_chance_29 : decode cX9_chance 29 = .ok (.invokevirtual 265, 3) := by decide +kernel
theorem dX9_chance_32 : decode cX9_chance 32 = .ok (.ireturn, 1) := by decide +kernel
theorem dX9_clear_0 : decode cX9_clear 0 = .ok (.aload_n 0, 1) := by decide +kernel
theorem dX9_clear_1 : decode cX9_clear 1 = .ok (.getfield 79, 3) := by decide +kernel
theorem dX9_clear_4 : decode cX9_clear 4 = .ok (.invokevirtual 269, 3) := by decide +kernel
theorem dX9_clear_7 : decode cX9_clear 7 = .ok (.ireturn, 1) := by decide +kernel
theorem dX9_expects_0 : decode cX9_expects 0 = .ok (.aload_n 0, 1) := by decide +kernel
theorem dX9_expects_1 : decode cX9_expects 1 = .ok (.getfield 79, 3) := by decide +kernel
theorem dX9_expects_4 : decode cX9_expects 4 = .ok (.getfield 272, 3) := by decide +kernel
theorem dX9_expects_7 : decode cX9_expects 7 = .ok (.ifCond .eq 36, 3) := by decide +kernel
theorem dX9_expects_10 : decode cX9_expects 10 = .ok (.iload_n 1, 1) := by decide +kernel
theorem dX9_expects_11 : decode cX9_expects 11 = .ok (.invokestatic 136, 3) := by decide +kernel
theorem dX9_expects_14 : decode cX9_expects 14 = .ok (.ifCond .eq 29, 3) := by decide +kernel
theorem dX9_expects_17 : decode cX9_expects 17 = .ok (.iload_n 2, 1) := by decide +kernel
theorem dX9_expects_18 : decode cX9_expects 18 = .ok (.invokestatic 136, 3) := by decide +kernel
theorem dX9_expects_21 : decode cX9_expects 21 = .ok (.ifCond .eq 22, 3) := by decide +kernel
theorem dX9_expects_24 : decode cX9_expects 24 = .ok (.iload_n 3, 1) := by decide +kernel
theorem dX9_expects_25 : decode cX9_expects 25 = .ok (.invokestatic 136, 3) := by decide +kernel
theorem dX9_expects_28 : decode cX9_expects 28 = .ok (.ifCond .eq 15, 3) := by decide +kernel
theorem dX9_expects_31 : decode cX9_expects 31 = .ok (.iload 4, 2) := by decide +kernel
theorem dX9_expects_33 : decode cX9_expects 33 = .ok (.ifCond .lt 10, 3) := by decide +kernel
theorem dX9_expects_36 : decode cX9_expects 36 = .ok (.iload 4, 2) := by decide +kernel
theorem dX9_expects_38 : decode cX9_expects 38 = .ok (.bipush 60, 2) := by decide +kernel
theorem dX9_expects_40 : decode cX9_expects 40 = .ok (.if_icmp .le 6, 3) := by decide +kernel
theorem dX9_expects_43 : decode cX9_expects 43 = .ok (.ldc 174, 2) := by decide +kernel
theorem dX9_expects_45 : decode cX9_expects 45 = .ok (.ireturn, 1) := by decide +kernel
theorem dX9_expects_46 : decode cX9_expects 46 = .ok (.aload_n 0, 1) := by decide +kernel
theorem dX9_expects_47 : decode cX9_expects 47 = .ok (.getfield 79, 3) := by decide +kernel
theorem dX9_expects_50 : decode cX9_expects 50 = .ok (.iload_n 1, 1) := by decide +kernel
theorem dX9_expects_51 : decode cX9_expects 51 = .ok (.iload_n 2, 1) := by decide +kernel
theorem dX9_expects_52 : decode cX9_expects 52 = .ok (.iload_n 3, 1) := by decide +kernel
theorem dX9_expects_53 : decode cX9_expects 53 = .ok (.iload 4, 2) := by decide +kernel
theorem dX9_expects_55 : decode cX9_expects 55 = .ok (.invokevirtual 273, 3) := by decide +kernel
theorem dX9_expects_58 : decode cX9_expects 58 = .ok (.ireturn, 1) := by decide +kernel
theorem dX9_stock_0 : decode cX9_stock 0 = .ok (.aload_n 0, 1) := by decide +kernel
theorem dX9_stock_1 : decode cX9_stock 1 = .ok (.getfield 79, 3) := by decide +kernel
theorem dX9_stock_4 : decode cX9_stock 4 = .ok (.getfield 272, 3) := by decide +kernel
theorem dX9_stock_7 : decode cX9_stock 7 = .ok (.ifCond .eq 24, 3) := by decide +kernel
theorem dX9_stock_10 : decode cX9_stock 10 = .ok (.iload_n 1, 1) := by decide +kernel
theorem dX9_stock_11 : decode cX9_stock 11 = .ok (.invokestatic 136, 3) := by decide +kernel
theorem dX9_stock_14 : decode cX9_stock 14 = .ok (.ifCond .eq 17, 3) := by decide +kernel
theorem dX9_stock_17 : decode cX9_stock 17 = .ok (.iload_n 2, 1) := by decide +kernel
theorem dX9_stock_18 : decode cX9_stock 18 = .ok (.invokestatic 136, 3) := by decide +kernel
theorem dX9_stock_21 : decode cX9_stock 21 = .ok (.ifCond .eq 10, 3) := by decide +kernel
theorem dX9_stock_24 : decode cX9_stock 24 = .ok (.iload_n 3, 1) := by decide +kernel
theorem dX9_stock_25 : decode cX9_stock 25 = .ok (.invokestatic 136, 3) := by decide +kernel
theorem dX9_stock_28 : decode cX9_stock 28 = .ok (.ifCond .ne 5, 3) := by decide +kernel
theorem dX9_stock_31 : decode cX9_stock 31 = .ok (.iconst (-1), 1) := by decide +kernel
theorem dX9_stock_32 : decode cX9_stock 32 = .ok (.ireturn, 1) := by decide +kernel
theorem dX9_stock_33 : decode cX9_stock 33 = .ok (.aload_n 0, 1) := by decide +kernel
theorem dX9_stock_34 : decode cX9_stock 34 = .ok (.getfield 79, 3) := by decide +kernel
theorem dX9_stock_37 : decode cX9_stock 37 = .ok (.iload_n 1, 1) := by decide +kernel
theorem dX9_stock_38 : decode cX9_stock 38 = .ok (.iload_n 2, 1) := by decide +kernel
theorem dX9_stock_39 : decode cX9_stock 39 = .ok (.iload_n 3, 1) := by decide +kernel
theorem dX9_stock_40 : decode cX9_stock 40 = .ok (.invokevirtual 277, 3) := by decide +kernel
theorem dX9_stock_43 : decode cX9_stock 43 = .ok (.ireturn, 1) := by decide +kernel
theorem dX9_seller_0 : decode cX9_seller 0 = .ok (.aload_n 0, 1) := by decide +kernel
theorem dX9_seller_1 : decode cX9_seller 1 = .ok (.getfield 79, 3) := by decide +kernel
theorem dX9_seller_4 : decode cX9_seller 4 = .ok (.getfield 272, 3) := by decide +kernel
theorem dX9_seller_7 : decode cX9_seller 7 = .ok (.ifCond .eq 35, 3) := by decide +kernel
theorem dX9_seller_10 : decode cX9_seller 10 = .ok (.iload_n 1, 1) := by decide +kernel
theorem dX9_seller_11 : decode cX9_seller 11 = .ok (.invokestatic 136, 3) := by decide +kernel
theorem dX9_seller_14 : decode cX9_seller 14 = .ok (.ifCond .eq 28, 3) := by decide +kernel
theorem dX9_seller_17 : decode cX9_seller 17 = .ok (.iload_n 2, 1) := by decide +kernel
theorem dX9_seller_18 : decode cX9_seller 18 = .ok (.invokestatic 136, 3) := by decide +kernel
theorem dX9_seller_21 : decode cX9_seller 21 = .ok (.ifCond .eq 21, 3) := by decide +kernel
theorem dX9_seller_24 : decode cX9_seller 24 = .ok (.iload_n 3, 1) := by decide +kernel
theorem dX9_seller_25 : decode cX9_seller 25 = .ok (.invokestatic 136, 3) := by decide +kernel
theorem dX9_seller_28 : decode cX9_seller 28 = .ok (.ifCond .eq 14, 3) := by decide +kernel
theorem dX9_seller_31 : decode cX9_seller 31 = .ok (.iload 4, 2) := by decide +kernel
theorem dX9_seller_33 : decode cX9_seller 33 = .ok (.ifCond .lt 9, 3) := by decide +kernel
theorem dX9_seller_36 : decode cX9_seller 36 = .ok (.iload 4, 2) := by decide +kernel
theorem dX9_seller_38 : decode cX9_seller 38 = .ok (.iconst 1, 1) := by decide +kernel
theorem dX9_seller_39 : decode cX9_seller 39 = .ok (.if_icmp .le 6, 3) := by decide +kernel
theorem dX9_seller_42 : decode cX9_seller 42 = .ok (.ldc 174, 2) := by decide +kernel
theorem dX9_seller_44 : decode cX9_seller 44 = .ok (.ireturn, 1) := by decide +kernel
theorem dX9_seller_45 : decode cX9_seller 45 = .ok (.aload_n 0, 1) := by decide +kernel
theorem dX9_seller_46 : decode cX9_seller 46 = .ok (.getfield 79, 3) := by decide +kernel
theorem dX9_seller_49 : decode cX9_seller 49 = .ok (.iload_n 1, 1) := by decide +kernel
theorem dX9_seller_50 : decode cX9_seller 50 = .ok (.iload_n 2, 1) := by decide +kernel
theorem dX9_seller_51 : decode cX9_seller 51 = .ok (.iload_n 3, 1) := by decide +kernel
theorem dX9_seller_52 : decode cX9_seller 52 = .ok (.invokevirtual 281, 3) := by decide +kernel
theorem dX9_seller_55 : decode cX9_seller 55 = .ok (.istore 5, 2) := by decide +kernel
theorem dX9_seller_57 : decode cX9_seller 57 = .ok (.iload 4, 2) := by decide +kernel
theorem dX9_seller_59 : decode cX9_seller 59 = .ok (.ifCond .ne 8, 3) := by decide +kernel
theorem dX9_seller_62 : decode cX9_seller 62 = .ok (.iload 5, 2) := by decide +kernel
theorem dX9_seller_64 : decode cX9_seller 64 = .ok (.goto 15, 3) := by decide +kernel
theorem dX9_seller_67 : decode cX9_seller 67 = .ok (.aload_n 0, 1) := by decide +kernel
theorem dX9_seller_68 : decode cX9_seller 68 = .ok (.getfield 79, 3) := by decide +kernel
theorem dX9_seller_71 : decode cX9_seller 71 = .ok (.iload_n 1, 1) := by decide +kernel
theorem dX9_seller_72 : decode cX9_seller 72 = .ok (.iload_n 2, 1) := by decide +kernel
theorem dX9_seller_73 : decode cX9_seller 73 = .ok (.iload_n 3, 1) := by decide +kernel
theorem dX9_seller_74 : decode cX9_seller 74 = .ok (.iload 5, 2) := by decide +kernel
theorem dX9_seller_76 : decode cX9_seller 76 = .ok (.invokevirtual 284, 3) := by decide +kernel
theorem dX9_seller_79 : decode cX9_seller 79 = .ok (.ireturn, 1) := by decide +kernel
theorem dX9_rather_0 : decode cX9_rather 0 = .ok (.aload_n 0, 1) := by decide +kernel
theorem dX9_rather_1 : decode cX9_rather 1 = .ok (.iload_n 1, 1) := by decide +kernel
theorem dX9_rather_2 : decode cX9_rather 2 = .ok (.invokevirtual 98, 3) := by decide +kernel
theorem dX9_rather_5 : decode cX9_rather 5 = .ok (.astore_n 3, 1) := by decide +kernel
theorem dX9_rather_6 : decode cX9_rather 6 = .ok (.aload_n 3, 1) := by decide +kernel
theorem dX9_rather_7 : decode cX9_rather 7 = .ok (.ifnull 32, 3) := by decide +kernel
theorem dX9_rather_10 : decode cX9_rather 10 = .ok (.aload_n 3, 1) := by decide +kernel
theorem dX9_rather_11 : decode cX9_rather 11 = .ok (.iload_n 2, 1) := by decide +kernel
theorem dX9_rather_12 : decode cX9_rather 12 = .ok (.invokevirtual 102, 3) := by decide +kernel
theorem dX9_rather_15 : decode cX9_rather 15 = .ok (.ifCond .eq 24, 3) := by decide +kernel
theorem dX9_rather_18 : decode cX9_rather 18 = .ok (.aload_n 3, 1) := by decide +kernel
theorem dX9_rather_19 : decode cX9_rather 19 = .ok (.getfield 117, 3) := by decide +kernel
theorem dX9_rather_22 : decode cX9_rather 22 = .ok (.iload_n 2, 1) := by decide +kernel
theorem dX9_rather_23 : decode cX9_rather 23 = .ok (.iaload, 1) := by decide +kernel
theorem dX9_rather_24 : decode cX9_rather 24 = .ok (.iconst (-1), 1) := by decide +kernel
theorem dX9_rather_25 : decode cX9_rather 25 = .ok (.if_icmp .eq 14, 3) := by decide +kernel
theorem dX9_rather_28 : decode cX9_rather 28 = .ok (.aload_n 3, 1) := by decide +kernel
theorem dX9_rather_29 : decode cX9_rather 29 = .ok (.getfield 143, 3) := by decide +kernel
theorem dX9_rather_32 : decode cX9_rather 32 = .ok (.iload_n 2, 1) := by decide +kernel
theorem dX9_rather_33 : decode cX9_rather 33 = .ok (.invokevirtual 287, 3) := by decide +kernel
theorem dX9_rather_36 : decode cX9_rather 36 = .ok (.ifCond .eq 6, 3) := by decide +kernel
theorem dX9_rather_39 : decode cX9_rather 39 = .ok (.ldc 174, 2) := by decide +kernel
theorem dX9_rather_41 : decode cX9_rather 41 = .ok (.ireturn, 1) := by decide +kernel
theorem dX9_rather_42 : decode cX9_rather 42 = .ok (.aload_n 0, 1) := by decide +kernel
theorem dX9_rather_43 : decode cX9_rather 43 = .ok (.getfield 41, 3) := by decide +kernel
theorem dX9_rather_46 : decode cX9_rather 46 = .ok (.aload_n 3, 1) := by decide +kernel
theorem dX9_rather_47 : decode cX9_rather 47 = .ok (.aload_n 3, 1) := by decide +kernel
theorem dX9_rather_48 : decode cX9_rather 48 = .ok (.getfield 143, 3) := by decide +kernel
theorem dX9_rather_51 : decode cX9_rather 51 = .ok (.invokevirtual 166, 3) := by decide +kernel
theorem dX9_rather_54 : decode cX9_rather 54 = .ok (.aload_n 0, 1) := by decide +kernel
theorem dX9_rather_55 : decode cX9_rather 55 = .ok (.getfield 34, 3) := by decide +kernel
theorem dX9_rather_58 : decode cX9_rather 58 = .ok (.aload_n 3, 1) := by decide +kernel
theorem dX9_rather_59 : decode cX9_rather 59 = .ok (.getfield 143, 3) := by decide +kernel
theorem dX9_rather_62 : decode cX9_rather 62 = .ok (.invokevirtual 197, 3) := by decide +kernel
theorem dX9_rather_65 : decode cX9_rather 65 = .ok (.aload_n 0, 1) := by decide +kernel
theorem dX9_rather_66 : decode cX9_rather 66 = .ok (.getfield 34, 3) := by decide +kernel
theorem dX9_rather_69 : decode cX9_rather 69 = .ok (.aload_n 3, 1) := by decide +kernel
theorem dX9_rather_70 : decode cX9_rather 70 = .ok (.getfield 143, 3) := by decide +kernel
theorem dX9_rather_73 : decode cX9_rather 73 = .ok (.getfield 146, 3) := by decide +kernel
theorem dX9_rather_76 : decode cX9_rather 76 = .ok (.iconst 1, 1) := by decide +kernel
theorem dX9_rather_77 : decode cX9_rather 77 = .ok (.iload_n 2, 1) := by decide +kernel
theorem dX9_rather_78 : decode cX9_rather 78 = .ok (.ishl, 1) := by decide +kernel
theorem dX9_rather_79 : decode cX9_rather 79 = .ok (.ior, 1) := by decide +kernel
theorem dX9_rather_80 : decode cX9_rather 80 = .ok (.putfield 146, 3) := by decide +kernel
theorem dX9_rather_83 : decode cX9_rather 83 = .ok (.aload_n 0, 1) := by decide +kernel
theorem dX9_rather_84 : decode cX9_rather 84 = .ok (.getfield 45, 3) := by decide +kernel
theorem dX9_rather_87 : decode cX9_rather 87 = .ok (.aload_n 3, 1) := by decide +kernel
theorem dX9_rather_88 : decode cX9_rather 88 = .ok (.aload_n 0, 1) := by decide +kernel
theorem dX9_rather_89 : decode cX9_rather 89 = .ok (.getfield 34, 3) := by decide +kernel
theorem dX9_rather_92 : decode cX9_rather 92 = .ok (.invokevirtual 166, 3) := by decide +kernel
theorem dX9_rather_95 : decode cX9_rather 95 = .ok (.aload_n 0, 1) := by decide +kernel
theorem dX9_rather_96 : decode cX9_rather 96 = .ok (.getfield 72, 3) := by decide +kernel
theorem dX9_rather_99 : decode cX9_rather 99 = .ok (.aload_n 3, 1) := by decide +kernel
theorem dX9_rather_100 : decode cX9_rather 100 = .ok (.aload_n 0, 1) := by decide +kernel
theorem dX9_rather_101 : decode cX9_rather 101 = .ok (.getfield 34, 3) := by decide +kernel
theorem dX9_rather_104 : decode cX9_rather 104 = .ok (.getfield 146, 3) := by decide +kernel
theorem dX9_rather_107 : decode cX9_rather 107 = .ok (.iload_n 2, 1) := by decide +kernel
theorem dX9_rather_108 : decode cX9_rather 108 = .ok (.aload_n 0, 1) := by decide +kernel
theorem dX9_rather_109 : decode cX9_rather 109 = .ok (.getfield 41, 3) := by decide +kernel
theorem dX9_rather_112 : decode cX9_rather 112 = .ok (.getfield 184, 3) := by decide +kernel
theorem dX9_rather_115 : decode cX9_rather 115 = .ok (.aload_n 0, 1) := by decide +kernel
theorem dX9_rather_116 : decode cX9_rather 116 = .ok (.getfield 45, 3) := by decide +kernel
theorem dX9_rather_119 : decode cX9_rather 119 = .ok (.getfield 184, 3) := by decide +kernel
theorem dX9_rather_122 : decode cX9_rather 122 = .ok (.invokevirtual 290, 3) := by decide +kernel
theorem dX9_rather_125 : decode cX9_rather 125 = .ok (.ireturn, 1) := by decide +kernel
theorem dX9_rests_0 : decode cX9_rests 0 = .ok (.aload_n 0, 1) := by decide +kernel
theorem dX9_rests_1 : decode cX9_rests 1 = .ok (.iload_n 1, 1) := by decide +kernel
theorem dX9_rests_2 : decode cX9_rests 2 = .ok (.invokevirtual 98, 3) := by decide +kernel
theorem dX9_rests_5 : decode cX9_rests 5 = .ok (.astore_n 3, 1) := by decide +kernel
theorem dX9_rests_6 : decode cX9_rests 6 = .ok (.aload_n 3, 1) := by decide +kernel
theorem dX9_rests_7 : decode cX9_rests 7 = .ok (.ifnonnull 5, 3) := by decide +kernel
theorem dX9_rests_10 : decode cX9_rests 10 = .ok (.iconst (-1), 1) := by decide +kernel
theorem dX9_rests_11 : decode cX9_rests 11 = .ok (.ireturn, 1) := by decide +kernel
theorem dX9_rests_12 : decode cX9_rests 12 = .ok (.aload_n 3, 1) := by decide +kernel
theorem dX9_rests_13 : decode cX9_rests 13 = .ok (.getfield 156, 3) := by decide +kernel
theorem dX9_rests_16 : decode cX9_rests 16 = .ok (.ifCond .ne 30, 3) := by decide +kernel
theorem dX9_rests_19 : decode cX9_rests 19 = .ok (.aload_n 0, 1) := by decide +kernel
theorem dX9_rests_20 : decode cX9_rests 20 = .ok (.getfield 34, 3) := by decide +kernel
theorem dX9_rests_23 : decode cX9_rests 23 = .ok (.aload_n 3, 1) := by decide +kernel
theorem dX9_rests_24 : decode cX9_rests 24 = .ok (.getfield 143, 3) := by decide +kernel
theorem dX9_rests_27 : decode cX9_rests 27 = .ok (.invokevirtual 197, 3) := by decide +kernel
theorem dX9_rests_30 : decode cX9_rests 30 = .ok (.aload_n 0, 1) := by decide +kernel
theorem dX9_rests_31 : decode cX9_rests 31 = .ok (.getfield 72, 3) := by decide +kernel
theorem dX9_rests_34 : decode cX9_rests 34 = .ok (.aload_n 3, 1) := by decide +kernel
theorem dX9_rests_35 : decode cX9_rests 35 = .ok (.aload_n 0, 1) := by decide +kernel
theorem dX9_rests_36 : decode cX9_rests 36 = .ok (.getfield 34, 3) := by decide +kernel
theorem dX9_rests_39 : decode cX9_rests 39 = .ok (.aload_n 0, 1) := by decide +kernel
theorem dX9_rests_40 : decode cX9_rests 40 = .ok (.getfield 45, 3) := by decide +kernel
theorem dX9_rests_43 : decode cX9_rests 43 = .ok (.invokevirtual 294, 3) := by decide +kernel
theorem dX9_rests_46 : decode cX9_rests 46 = .ok (.iload_n 2, 1) := by decide +kernel
theorem dX9_rests_47 : decode cX9_rests 47 = .ok (.iconst (-1), 1) := by decide +kernel
theorem dX9_rests_48 : decode cX9_rests 48 = .ok (.if_icmp .ne 8, 3) := by decide +kernel
theorem dX9_rests_51 : decode cX9_rests 51 = .ok (.aload_n 3, 1) := by decide +kernel
theorem dX9_rests_52 : decode cX9_rests 52 = .ok (.getfield 298, 3) := by decide +kernel
theorem dX9_rests_55 : decode cX9_rests 55 = .ok (.ireturn, 1) := by decide +kernel
theorem dX9_rests_56 : decode cX9_rests 56 = .ok (.iload_n 2, 1) := by decide +kernel
theorem dX9_rests_57 : decode cX9_rests 57 = .ok (.ifCond .lt 11, 3) := by decide +kernel
theorem dX9_rests_60 : decode cX9_rests 60 = .ok (.iload_n 2, 1) := by decide +kernel
theorem dX9_rests_61 : decode cX9_rests 61 = .ok (.aload_n 3, 1) := by decide +kernel
theorem dX9_rests_62 : decode cX9_rests 62 = .ok (.getfield 298, 3) := by decide +kernel
theorem dX9_rests_65 : decode cX9_rests 65 = .ok (.if_icmp .lt 7, 3) := by decide +kernel
theorem dX9_rests_68 : decode cX9_rests 68 = .ok (.iconst (-1), 1) := by decide +kernel
theorem dX9_rests_69 : decode cX9_rests 69 = .ok (.goto 9, 3) := by decide +kernel
theorem dX9_rests_72 : decode cX9_rests 72 = .ok (.aload_n 3, 1) := by decide +kernel
theorem dX9_rests_73 : decode cX9_rests 73 = .ok (.getfield 301, 3) := by decide +kernel
theorem dX9_rests_76 : decode cX9_rests 76 = .ok (.iload_n 2, 1) := by decide +kernel
theorem dX9_rests_77 : decode cX9_rests 77 = .ok (.iaload, 1) := by decide +kernel
theorem dX9_rests_78 : decode cX9_rests 78 = .ok (.ireturn, 1) := by decide +kernel
theorem dX9_count_0 : decode cX9_count 0 = .ok (.iload_n 1, 1) := by decide +kernel
theorem dX9_count_1 : decode cX9_count 1 = .ok (.tableswitch 48 0 2 #[27, 32, 40], 27) := by decide +kernel
theorem dX9_count_28 : decode cX9_count 28 = .ok (.aload_n 0, 1) := by decide +kernel
theorem dX9_count_29 : decode cX9_count 29 = .ok (.getfield 22, 3) := by decide +kernel
theorem dX9_count_32 : decode cX9_count 32 = .ok (.ireturn, 1) := by decide +kernel
theorem dX9_count_33 : decode cX9_count 33 = .ok (.aload_n 0, 1) := by decide +kernel
theorem dX9_count_34 : decode cX9_count 34 = .ok (.getfield 79, 3) := by decide +kernel
theorem dX9_count_37 : decode cX9_count 37 = .ok (.getfield 272, 3) := by decide +kernel
theorem dX9_count_40 : decode cX9_count 40 = .ok (.ireturn, 1) := by decide +kernel
theorem dX9_count_41 : decode cX9_count 41 = .ok (.aload_n 0, 1) := by decide +kernel
theorem dX9_count_42 : decode cX9_count 42 = .ok (.getfield 12, 3) := by decide +kernel
theorem dX9_count_45 : decode cX9_count 45 = .ok (.getfield 87, 3) := by decide +kernel
theorem dX9_count_48 : decode cX9_count 48 = .ok (.ireturn, 1) := by decide +kernel
theorem dX9_count_49 : decode cX9_count 49 = .ok (.iconst (-1), 1) := by decide +kernel
theorem dX9_count_50 : decode cX9_count 50 = .ok (.ireturn, 1) := by decide +kernel
theorem dX9_find_0 : decode cX9_find 0 = .ok (.iload_n 1, 1) := by decide +kernel
theorem dX9_find_1 : decode cX9_find 1 = .ok (.ifCond .lt 11, 3) := by decide +kernel
theorem dX9_find_4 : decode cX9_find 4 = .ok (.iload_n 1, 1) := by decide +kernel
theorem dX9_find_5 : decode cX9_find 5 = .ok (.aload_n 0, 1) := by decide +kernel
theorem dX9_find_6 : decode cX9_find 6 = .ok (.getfield 22, 3) := by decide +kernel
theorem dX9_find_9 : decode cX9_find 9 = .ok (.if_icmp .lt 7, 3) := by decide +kernel
theorem dX9_find_12 : decode cX9_find 12 = .ok (.aconst_null, 1) := by decide +kernel
theorem dX9_find_13 : decode cX9_find 13 = .ok (.goto 9, 3) := by decide +kernel
theorem dX9_find_16 : decode cX9_find 16 = .ok (.aload_n 0, 1) := by decide +kernel
theorem dX9_find_17 : decode cX9_find 17 = .ok (.getfield 18, 3) := by decide +kernel
theorem dX9_find_20 : decode cX9_find 20 = .ok (.iload_n 1, 1) := by decide +kernel
theorem dX9_find_21 : decode cX9_find 21 = .ok (.aaload, 1) := by decide +kernel
theorem dX9_find_22 : decode cX9_find 22 = .ok (.areturn, 1) := by decide +kernel
theorem dX9_findParted_0 : decode cX9_findParted 0 = .ok (.aload_n 0, 1) := by decide +kernel
theorem dX9_findParted_1 : decode cX9_findParted 1 = .ok (.iload_n 1, 1) := by decide +kernel
theorem dX9_findParted_2 : decode cX9_findParted 2 = .ok (.invokevirtual 98, 3) := by decide +kernel
theorem dX9_findParted_5 : decode cX9_findParted 5 = .ok (.astore_n 3, 1) := by decide +kernel
theorem dX9_findParted_6 : decode cX9_findParted 6 = .ok (.aload_n 3, 1) := by decide +kernel
theorem dX9_findParted_7 : decode cX9_findParted 7 = .ok (.ifnull 21, 3) := by decide +kernel
theorem dX9_findParted_10 : decode cX9_findParted 10 = .ok (.aload_n 3, 1) := by decide +kernel
theorem dX9_findParted_11 : decode cX9_findParted 11 = .ok (.iload_n 2, 1) := by decide +kernel
theorem dX9_findParted_12 : decode cX9_findParted 12 = .ok (.invokevirtual 126, 3) := by decide +kernel
theorem dX9_findParted_15 : decode cX9_findParted 15 = .ok (.ifCond .eq 13, 3) := by decide +kernel
theorem dX9_findParted_18 : decode cX9_findParted 18 = .ok (.aload_n 3, 1) := by decide +kernel
theorem dX9_findParted_19 : decode cX9_findParted 19 = .ok (.getfield 117, 3) := by decide +kernel
theorem dX9_findParted_22 : decode cX9_findParted 22 = .ok (.iload_n 2, 1) := by decide +kernel
theorem dX9_findParted_23 : decode cX9_findParted 23 = .ok (.iaload, 1) := by decide +kernel
theorem dX9_findParted_24 : decode cX9_findParted 24 = .ok (.iconst (-1), 1) := by decide +kernel
theorem dX9_findParted_25 : decode cX9_findParted 25 = .ok (.if_icmp .ne 7, 3) := by decide +kernel
theorem dX9_findParted_28 : decode cX9_findParted 28 = .ok (.aconst_null, 1) := by decide +kernel
theorem dX9_findParted_29 : decode cX9_findParted 29 = .ok (.goto 4, 3) := by decide +kernel
theorem dX9_findParted_32 : decode cX9_findParted 32 = .ok (.aload_n 3, 1) := by decide +kernel
theorem dX9_findParted_33 : decode cX9_findParted 33 = .ok (.areturn, 1) := by decide +kernel
theorem dX9_settleTogether_0 : decode cX9_settleTogether 0 = .ok (.aload_n 0, 1) := by decide +kernel
theorem dX9_settleTogether_1 : decode cX9_settleTogether 1 = .ok (.getfield 34, 3) := by decide +kernel
theorem dX9_settleTogether_4 : decode cX9_settleTogether 4 = .ok (.invokevirtual 304, 3) := by decide +kernel
theorem dX9_settleTogether_7 : decode cX9_settleTogether 7 = .ok (.aload_n 0, 1) := by decide +kernel
theorem dX9_settleTogether_8 : decode cX9_settleTogether 8 = .ok (.getfield 34, 3) := by decide +kernel
theorem dX9_settleTogether_11 : decode cX9_settleTogether 11 = .ok (.aload_n 1, 1) := by decide +kernel
theorem dX9_settleTogether_12 : decode cX9_settleTogether 12 = .ok (.invokevirtual 139, 3) := by decide +kernel
theorem dX9_settleTogether_15 : decode cX9_settleTogether 15 = .ok (.putfield 146, 3) := by decide +kernel
theorem dX9_settleTogether_18 : decode cX9_settleTogether 18 = .ok (.aload_n 0, 1) := by decide +kernel
theorem dX9_settleTogether_19 : decode cX9_settleTogether 19 = .ok (.getfield 34, 3) := by decide +kernel
theorem dX9_settleTogether_22 : decode cX9_settleTogether 22 = .ok (.iload_n 2, 1) := by decide +kernel
theorem dX9_settleTogether_23 : decode cX9_settleTogether 23 = .ok (.putfield 149, 3) := by decide +kernel
theorem dX9_settleTogether_26 : decode cX9_settleTogether 26 = .ok (.aload_n 0, 1) := by decide +kernel
theorem dX9_settleTogether_27 : decode cX9_settleTogether 27 = .ok (.getfield 45, 3) := by decide +kernel
theorem dX9_settleTogether_30 : decode cX9_settleTogether 30 = .ok (.aload_n 1, 1) := by decide +kernel
theorem dX9_settleTogether_31 : decode cX9_settleTogether 31 = .ok (.aload_n 0, 1) := by decide +kernel
theorem dX9_settleTogether_32 : decode cX9_settleTogether 32 = .ok (.getfield 34, 3) := by decide +kernel
theorem dX9_settleTogether_35 : decode cX9_settleTogether 35 = .ok (.invokevirtual 166, 3) := by decide +kernel
theorem dX9_settleTogether_38 : decode cX9_settleTogether 38 = .ok (.return_, 1) := by decide +kernel
theorem dX9_settleFree_0 : decode cX9_settleFree 0 = .ok (.aload_n 0, 1) := by decide +kernel
theorem dX9_settleFree_1 : decode cX9_settleFree 1 = .ok (.getfield 34, 3) := by decide +kernel
theorem dX9_settleFree_4 : decode cX9_settleFree 4 = .ok (.invokevirtual 304, 3) := by decide +kernel
theorem dX9_settleFree_7 : decode cX9_settleFree 7 = .ok (.aload_n 0, 1) := by decide +kernel
theorem dX9_settleFree_8 : decode cX9_settleFree 8 = .ok (.getfield 45, 3) := by decide +kernel
theorem dX9_settleFree_11 : decode cX9_settleFree 11 = .ok (.aload_n 1, 1) := by decide +kernel
theorem dX9_settleFree_12 : decode cX9_settleFree 12 = .ok (.aload_n 0, 1) := by decide +kernel
theorem dX9_settleFree_13 : decode cX9_settleFree 13 = .ok (.getfield 34, 3) := by decide +kernel
theorem dX9_settleFree_16 : decode cX9_settleFree 16 = .ok (.invokevirtual 166, 3) := by decide +kernel
theorem dX9_settleFree_19 : decode cX9_settleFree 19 = .ok (.return_, 1) := by decide +kernel
theorem dX9_isPrice_0 : decode cX9_isPrice 0 = .ok (.iload_n 0, 1) := by decide +kernel
theorem dX9_isPrice_1 : decode cX9_isPrice 1 = .ok (.ifCond .lt 13, 3) := by decide +kernel
theorem dX9_isPrice_4 : decode cX9_isPrice 4 = .ok (.iload_n 0, 1) := by decide +kernel
theorem dX9_isPrice_5 : decode cX9_isPrice 5 = .ok (.bipush 41, 2) := by decide +kernel
theorem dX9_isPrice_7 : decode cX9_isPrice 7 = .ok (.if_icmp .gt 7, 3) := by decide +kernel
theorem dX9_isPrice_10 : decode cX9_isPrice 10 = .ok (.iconst 1, 1) := by decide +kernel
theorem dX9_isPrice_11 : decode cX9_isPrice 11 = .ok (.goto 4, 3) := by decide +kernel
theorem dX9_isPrice_14 : decode cX9_isPrice 14 = .ok (.iconst 0, 1) := by decide +kernel
theorem dX9_isPrice_15 : decode cX9_isPrice 15 = .ok (.ireturn, 1) := by decide +kernel
theorem dX9_row_0 : decode cX9_row 0 = .ok (.iload_n 0, 1) := by decide +kernel
theorem dX9_row_1 : decode cX9_row 1 = .ok (.ifCond .ge 7, 3) := by decide +kernel
theorem dX9_row_4 : decode cX9_row 4 = .ok (.iconst 0, 1) := by decide +kernel
theorem dX9_row_5 : decode cX9_row 5 = .ok (.goto 15, 3) := by decide +kernel
theorem dX9_row_8 : decode cX9_row 8 = .ok (.iload_n 0, 1) := by decide +kernel
theorem dX9_row_9 : decode cX9_row 9 = .ok (.bipush 41, 2) := by decide +kernel
theorem dX9_row_11 : decode cX9_row 11 = .ok (.if_icmp .le 8, 3) := by decide +kernel
theorem dX9_row_14 : decode cX9_row 14 = .ok (.bipush 41, 2) := by decide +kernel
theorem dX9_row_16 : decode cX9_row 16 = .ok (.goto 4, 3) := by decide +kernel
theorem dX9_row_19 : decode cX9_row 19 = .ok (.iload_n 0, 1) := by decide +kernel
theorem dX9_row_20 : decode cX9_row 20 = .ok (.ireturn, 1) := by decide +kernel
theorem dX9_bestPrice_0 : decode cX9_bestPrice 0 = .ok (.bipush 41, 2) := by decide +kernel
theorem dX9_bestPrice_2 : decode cX9_bestPrice 2 = .ok (.istore_n 3, 1) := by decide +kernel
theorem dX9_bestPrice_3 : decode cX9_bestPrice 3 = .ok (.iconst 0, 1) := by decide +kernel
theorem dX9_bestPrice_4 : decode cX9_bestPrice 4 = .ok (.istore 4, 2) := by decide +kernel
theorem dX9_bestPrice_6 : decode cX9_bestPrice 6 = .ok (.bipush 41, 2) := by decide +kernel
theorem dX9_bestPrice_8 : decode cX9_bestPrice 8 = .ok (.istore 5, 2) := by decide +kernel
theorem dX9_bestPrice_10 : decode cX9_bestPrice 10 = .ok (.iload 5, 2) := by decide +kernel
theorem dX9_bestPrice_12 : decode cX9_bestPrice 12 = .ok (.ifCond .lt 47, 3) := by decide +kernel
theorem dX9_bestPrice_15 : decode cX9_bestPrice 15 = .ok (.iload 5, 2) := by decide +kernel
theorem dX9_bestPrice_17 : decode cX9_bestPrice 17 = .ok (.iload_n 2, 1) := by decide +kernel
theorem dX9_bestPrice_18 : decode cX9_bestPrice 18 = .ok (.isub, 1) := by decide +kernel
theorem dX9_bestPrice_19 : decode cX9_bestPrice 19 = .ok (.aload_n 0, 1) := by decide +kernel
theorem dX9_bestPrice_20 : decode cX9_bestPrice 20 = .ok (.iload 5, 2) := by decide +kernel
theorem dX9_bestPrice_22 : decode cX9_bestPrice 22 = .ok (.iaload, 1) := by decide +kernel
theorem dX9_bestPrice_23 : decode cX9_bestPrice 23 = .ok (.imul, 1) := by decide +kernel
theorem dX9_bestPrice_24 : decode cX9_bestPrice 24 = .ok (.istore 6, 2) := by decide +kernel
theorem dX9_bestPrice_26 : decode cX9_bestPrice 26 = .ok (.iload 5, 2) := by decide +kernel
theorem dX9_bestPrice_28 : decode cX9_bestPrice 28 = .ok (.iload_n 1, 1) := by decide +kernel
theorem dX9_bestPrice_29 : decode cX9_bestPrice 29 = .ok (.if_icmp .le 10, 3) := by decide +kernel
theorem dX9_bestPrice_32 : decode cX9_bestPrice 32 = .ok (.iload 5, 2) := by decide +kernel
theorem dX9_bestPrice_34 : decode cX9_bestPrice 34 = .ok (.bipush 41, 2) := by decide +kernel
theorem dX9_bestPrice_36 : decode cX9_bestPrice 36 = .ok (.if_icmp .ne 17, 3) := by decide +kernel
theorem dX9_bestPrice_39 : decode cX9_bestPrice 39 = .ok (.iload 6, 2) := by decide +kernel
theorem dX9_bestPrice_41 : decode cX9_bestPrice 41 = .ok (.iload 4, 2) := by decide +kernel
theorem dX9_bestPrice_43 : decode cX9_bestPrice 43 = .ok (.if_icmp .lt 10, 3) := by decide +kernel
theorem dX9_bestPrice_46 : decode cX9_bestPrice 46 = .ok (.iload 6, 2) := by decide +kernel
theorem dX9_bestPrice_48 : decode cX9_bestPrice 48 = .ok (.istore 4, 2) := by decide +kernel
theorem dX9_bestPrice_50 : decode cX9_bestPrice 50 = .ok (.iload 5, 2) := by decide +kernel
theorem dX9_bestPrice_52 : decode cX9_bestPrice 52 = .ok (.istore_n 3, 1) := by decide +kernel
theorem dX9_bestPrice_53 : decode cX9_bestPrice 53 = .ok (.iinc 5 (-1), 3) := by decide +kernel
theorem dX9_bestPrice_56 : decode cX9_bestPrice 56 = .ok (.goto (-46), 3) := by decide +kernel
theorem dX9_bestPrice_59 : decode cX9_bestPrice 59 = .ok (.iload_n 3, 1) := by decide +kernel
theorem dX9_bestPrice_60 : decode cX9_bestPrice 60 = .ok (.ireturn, 1) := by decide +kernel
