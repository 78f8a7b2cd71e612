theorem dX10_init_0 : decode cX10_init 0 = .ok (.aload_n 0, 1) := by decide +kernel
theorem dX10_init_1 : decode cX10_init 1 = .ok (.invokespecial 1, 3) := by decide +kernel
theorem dX10_init_4 : decode cX10_init 4 = .ok (.aload_n 0, 1) := by decide +kernel
theorem dX10_init_5 : decode cX10_init 5 = .ok (.sipush 300, 3) := by decide +kernel
theorem dX10_init_8 : decode cX10_init 8 = .ok (.newarray .byte, 2) := by decide +kernel
theorem dX10_init_10 : decode cX10_init 10 = .ok (.putfield 9, 3) := by decide +kernel
theorem dX10_init_13 : decode cX10_init 13 = .ok (.aload_n 0, 1) := by decide +kernel
theorem dX10_init_14 : decode cX10_init 14 = .ok (.bipush 11, 2) := by decide +kernel
theorem dX10_init_16 : decode cX10_init 16 = .ok (.newarray .int, 2) := by decide +kernel
theorem dX10_init_18 : decode cX10_init 18 = .ok (.putfield 13, 3) := by decide +kernel
theorem dX10_init_21 : decode cX10_init 21 = .ok (.aload_n 0, 1) := by decide +kernel
theorem dX10_init_22 : decode cX10_init 22 = .ok (.bipush 88, 2) := by decide +kernel
theorem dX10_init_24 : decode cX10_init 24 = .ok (.newarray .int, 2) := by decide +kernel
theorem dX10_init_26 : decode cX10_init 26 = .ok (.putfield 17, 3) := by decide +kernel
theorem dX10_init_29 : decode cX10_init 29 = .ok (.aload_n 0, 1) := by decide +kernel
theorem dX10_init_30 : decode cX10_init 30 = .ok (.bipush 88, 2) := by decide +kernel
theorem dX10_init_32 : decode cX10_init 32 = .ok (.newarray .int, 2) := by decide +kernel
theorem dX10_init_34 : decode cX10_init 34 = .ok (.putfield 20, 3) := by decide +kernel
theorem dX10_init_37 : decode cX10_init 37 = .ok (.aload_n 0, 1) := by decide +kernel
theorem dX10_init_38 : decode cX10_init 38 = .ok (.bipush 88, 2) := by decide +kernel
theorem dX10_init_40 : decode cX10_init 40 = .ok (.newarray .int, 2) := by decide +kernel
theorem dX10_init_42 : decode cX10_init 42 = .ok (.putfield 23, 3) := by decide +kernel
theorem dX10_init_45 : decode cX10_init 45 = .ok (.aload_n 0, 1) := by decide +kernel
theorem dX10_init_46 : decode cX10_init 46 = .ok (.bipush 11, 2) := by decide +kernel
theorem dX10_init_48 : decode cX10_init 48 = .ok (.newarray .int, 2) := by decide +kernel
theorem dX10_init_50 : decode cX10_init 50 = .ok (.putfield 26, 3) := by decide +kernel
theorem dX10_init_53 : decode cX10_init 53 = .ok (.aload_n 0, 1) := by decide +kernel
theorem dX10_init_54 : decode cX10_init 54 = .ok (.sipush 220, 3) := by decide +kernel
theorem dX10_init_57 : decode cX10_init 57 = .ok (.newarray .int, 2) := by decide +kernel
theorem dX10_init_59 : decode cX10_init 59 = .ok (.putfield 29, 3) := by decide +kernel
theorem dX10_init_62 : decode cX10_init 62 = .ok (.aload_n 0, 1) := by decide +kernel
theorem dX10_init_63 : decode cX10_init 63 = .ok (.sipush 220, 3) := by decide +kernel
theorem dX10_init_66 : decode cX10_init 66 = .ok (.newarray .int, 2) := by decide +kernel
theorem dX10_init_68 : decode cX10_init 68 = .ok (.putfield 32, 3) := by decide +kernel
theorem dX10_init_71 : decode cX10_init 71 = .ok (.aload_n 0, 1) := by decide +kernel
theorem dX10_init_72 : decode cX10_init 72 = .ok (.sipush 220, 3) := by decide +kernel
theorem dX10_init_75 : decode cX10_init 75 = .ok (.newarray .int, 2) := by decide +kernel
theorem dX10_init_77 : decode cX10_init 77 = .ok (.putfield 35, 3) := by decide +kernel
theorem dX10_init_80 : decode cX10_init 80 = .ok (.aload_n 0, 1) := by decide +kernel
theorem dX10_init_81 : decode cX10_init 81 = .ok (.bipush 11, 2) := by decide +kernel
theorem dX10_init_83 : decode cX10_init 83 = .ok (.newarray .int, 2) := by decide +kernel
theorem dX10_init_85 : decode cX10_init 85 = .ok (.putfield 38, 3) := by decide +kernel
theorem dX10_init_88 : decode cX10_init 88 = .ok (.aload_n 0, 1) := by decide +kernel
theorem dX10_init_89 : decode cX10_init 89 = .ok (.bipush 11, 2) := by decide +kernel
theorem dX10_init_91 : decode cX10_init 91 = .ok (.newarray .int, 2) := by decide +kernel
theorem dX10_init_93 : decode cX10_init 93 = .ok (.putfield 41, 3) := by decide +kernel
theorem dX10_init_96 : decode cX10_init 96 = .ok (.aload_n 0, 1) := by decide +kernel
theorem dX10_init_97 : decode cX10_init 97 = .ok (.bipush 88, 2) := by decide +kernel
theorem dX10_init_99 : decode cX10_init 99 = .ok (.newarray .int, 2) := by decide +kernel
theorem dX10_init_101 : decode cX10_init 101 = .ok (.putfield 44, 3) := by decide +kernel
theorem dX10_init_104 : decode cX10_init 104 = .ok (.aload_n 0, 1) := by decide +kernel
theorem dX10_init_105 : decode cX10_init 105 = .ok (.bipush 88, 2) := by decide +kernel
theorem dX10_init_107 : decode cX10_init 107 = .ok (.newarray .int, 2) := by decide +kernel
theorem dX10_init_109 : decode cX10_init 109 = .ok (.putfield 47, 3) := by decide +kernel
theorem dX10_init_112 : decode cX10_init 112 = .ok (.aload_n 0, 1) := by decide +kernel
theorem dX10_init_113 : decode cX10_init 113 = .ok (.bipush 11, 2) := by decide +kernel
theorem dX10_init_115 : decode cX10_init 115 = .ok (.newarray .boolean, 2) := by decide +kernel
theorem dX10_init_117 : decode cX10_init 117 = .ok (.putfield 50, 3) := by decide +kernel
theorem dX10_init_120 : decode cX10_init 120 = .ok (.aload_n 0, 1) := by decide +kernel
theorem dX10_init_121 : decode cX10_init 121 = .ok (.bipush 11, 2) := by decide +kernel
theorem dX10_init_123 : decode cX10_init 123 = .ok (.newarray .boolean, 2) := by decide +kernel
theorem dX10_init_125 : decode cX10_init 125 = .ok (.putfield 54, 3) := by decide +kernel
theorem dX10_init_128 : decode cX10_init 128 = .ok (.aload_n 0, 1) := by decide +kernel
theorem dX10_init_129 : decode cX10_init 129 = .ok (.sipush 4160, 3) := by decide +kernel
theorem dX10_init_132 : decode cX10_init 132 = .ok (.newarray .int, 2) := by decide +kernel
theorem dX10_init_134 : decode cX10_init 134 = .ok (.putfield 57, 3) := by decide +kernel
theorem dX10_init_137 : decode cX10_init 137 = .ok (.aload_n 0, 1) := by decide +kernel
theorem dX10_init_138 : decode cX10_init 138 = .ok (.sipush 4160, 3) := by decide +kernel
theorem dX10_init_141 : decode cX10_init 141 = .ok (.newarray .int, 2) := by decide +kernel
theorem dX10_init_143 : decode cX10_init 143 = .ok (.putfield 60, 3) := by decide +kernel
theorem dX10_init_146 : decode cX10_init 146 = .ok (.aload_n 0, 1) := by decide +kernel
theorem dX10_init_147 : decode cX10_init 147 = .ok (.sipush 4160, 3) := by decide +kernel
theorem dX10_init_150 : decode cX10_init 150 = .ok (.newarray .boolean, 2) := by decide +kernel
theorem dX10_init_152 : decode cX10_init 152 = .ok (.putfield 63, 3) := by decide +kernel
theorem dX10_init_155 : decode cX10_init 155 = .ok (.aload_n 0, 1) := by decide +kernel
theorem dX10_init_156 : decode cX10_init 156 = .ok (.bipush 8, 2) := by decide +kernel
theorem dX10_init_158 : decode cX10_init 158 = .ok (.newarray .int, 2) := by decide +kernel
theorem dX10_init_160 : decode cX10_init 160 = .ok (.putfield 66, 3) := by decide +kernel
theorem dX10_init_163 : decode cX10_init 163 = .ok (.aload_n 0, 1) := by decide +kernel
theorem dX10_init_164 : decode cX10_init 164 = .ok (.bipush 8, 2) := by decide +kernel
theorem dX10_init_166 : decode cX10_init 166 = .ok (.newarray .int, 2) := by decide +kernel
theorem dX10_init_168 : decode cX10_init 168 = .ok (.putfield 69, 3) := by decide +kernel
theorem dX10_init_171 : decode cX10_init 171 = .ok (.aload_n 0, 1) := by decide +kernel
theorem dX10_init_172 : decode cX10_init 172 = .ok (.sipush 1764, 3) := by decide +kernel
theorem dX10_init_175 : decode cX10_init 175 = .ok (.newarray .int, 2) := by decide +kernel
theorem dX10_init_177 : decode cX10_init 177 = .ok (.putfield 72, 3) := by decide +kernel
theorem dX10_init_180 : decode cX10_init 180 = .ok (.aload_n 0, 1) := by decide +kernel
theorem dX10_init_181 : decode cX10_init 181 = .ok (.sipush 1764, 3) := by decide +kernel
theorem dX10_init_184 : decode cX10_init 184 = .ok (.newarray .int, 2) := by decide +kernel
theorem dX10_init_186 : decode cX10_init 186 = .ok (.putfield 75, 3) := by decide +kernel
theorem dX10_init_189 : decode cX10_init 189 = .ok (.aload_n 0, 1) := by decide +kernel
theorem dX10_init_190 : decode cX10_init 190 = .ok (.bipush 12, 2) := by decide +kernel
theorem dX10_init_192 : decode cX10_init 192 = .ok (.newarray .int, 2) := by decide +kernel
theorem dX10_init_194 : decode cX10_init 194 = .ok (.putfield 78, 3) := by decide +kernel
theorem dX10_init_197 : decode cX10_init 197 = .ok (.aload_n 0, 1) := by decide +kernel
theorem dX10_init_198 : decode cX10_init 198 = .ok (.bipush 12, 2) := by decide +kernel
theorem dX10_init_200 : decode cX10_init 200 = .ok (.newarray .int, 2) := by decide +kernel
theorem dX10_init_202 : decode cX10_init 202 = .ok (.putfield 81, 3) := by decide +kernel
theorem dX10_init_205 : decode cX10_init 205 = .ok (.return_, 1) := by decide +kernel
theorem dX10_thrown_0 : decode cX10_thrown 0 = .ok (.aload_n 0, 1) := by decide +kernel
theorem dX10_thrown_1 : decode cX10_thrown 1 = .ok (.getfield 84, 3) := by decide +kernel
theorem dX10_thrown_4 : decode cX10_thrown 4 = .ok (.ireturn, 1) := by decide +kernel
theorem dX10_isIn_0 : decode cX10_isIn 0 = .ok (.iload_n 0, 1) := by decide +kernel
theorem dX10_isIn_1 : decode cX10_isIn 1 = .ok (.iload_n 1, 1) := by decide +kernel
theorem dX10_isIn_2 : decode cX10_isIn 2 = .ok (.if_icmp .lt 12, 3) := by decide +kernel
theorem dX10_isIn_5 : decode cX10_isIn 5 = .ok (.iload_n 0, 1) := by decide +kernel
theorem dX10_isIn_6 : decode cX10_isIn 6 = .ok (.iload_n 2, 1) := by decide +kernel
theorem dX10_isIn_7 : decode cX10_isIn 7 = .ok (.if_icmp .gt 7, 3) := by decide +kernel
theorem dX10_isIn_10 : decode cX10_isIn 10 = .ok (.iconst 1, 1) := by decide +kernel
theorem dX10_isIn_11 : decode cX10_isIn 11 = .ok (.goto 4, 3) := by decide +kernel
theorem dX10_isIn_14 : decode cX10_isIn 14 = .ok (.iconst 0, 1) := by decide +kernel
theorem dX10_isIn_15 : decode cX10_isIn 15 = .ok (.ireturn, 1) := by decide +kernel
theorem dX10_bytesIn_0 : decode cX10_bytesIn 0 = .ok (.iconst 0, 1) := by decide +kernel
theorem dX10_bytesIn_1 : decode cX10_bytesIn 1 = .ok (.istore_n 1, 1) := by decide +kernel
theorem dX10_bytesIn_2 : decode cX10_bytesIn 2 = .ok (.bipush 24, 2) := by decide +kernel
theorem dX10_bytesIn_4 : decode cX10_bytesIn 4 = .ok (.istore_n 2, 1) := by decide +kernel
theorem dX10_bytesIn_5 : decode cX10_bytesIn 5 = .ok (.iload_n 2, 1) := by decide +kernel
theorem dX10_bytesIn_6 : decode cX10_bytesIn 6 = .ok (.ifCond .lt 27, 3) := by decide +kernel
theorem dX10_bytesIn_9 : decode cX10_bytesIn 9 = .ok (.iload_n 1, 1) := by decide +kernel
theorem dX10_bytesIn_10 : decode cX10_bytesIn 10 = .ok (.iload_n 0, 1) := by decide +kernel
theorem dX10_bytesIn_11 : decode cX10_bytesIn 11 = .ok (.iload_n 2, 1) := by decide +kernel
theorem dX10_bytesIn_12 : decode cX10_bytesIn 12 = .ok (.ishr, 1) := by decide +kernel
theorem dX10_bytesIn_13 : decode cX10_bytesIn 13 = .ok (.sipush 255, 3) := by decide +kernel
theorem dX10_bytesIn_16 : decode cX10_bytesIn 16 = .ok (.iand, 1) := by decide +kernel
theorem dX10_bytesIn_17 : decode cX10_bytesIn 17 = .ok (.ifCond .eq 7, 3) := by decide +kernel
theorem dX10_bytesIn_20 : decode cX10_bytesIn 20 = .ok (.iconst 1, 1) := by decide +kernel
theorem dX10_bytesIn_21 : decode cX10_bytesIn 21 = .ok (.goto 4, 3) := by decide +kernel
theorem dX10_bytesIn_24 : decode cX10_bytesIn 24 = .ok (.iconst 0, 1) := by decide +kernel
theorem dX10_bytesIn_25 : decode cX10_bytesIn 25 = .ok (.iadd, 1) := by decide +kernel
theorem dX10_bytesIn_26 : decode cX10_bytesIn 26 = .ok (.istore_n 1, 1) := by decide +kernel
theorem dX10_bytesIn_27 : decode cX10_bytesIn 27 = .ok (.iinc 2 (-8), 3) := by decide +kernel
theorem dX10_bytesIn_30 : decode cX10_bytesIn 30 = .ok (.goto (-25), 3) := by decide +kernel
theorem dX10_bytesIn_33 : decode cX10_bytesIn 33 = .ok (.iload_n 1, 1) := by decide +kernel
theorem dX10_bytesIn_34 : decode cX10_bytesIn 34 = .ok (.ireturn, 1) := by decide +kernel
theorem dX10_put_0 : decode cX10_put 0 = .ok (.bipush 24, 2) := by decide +kernel
theorem dX10_put_2 : decode cX10_put 2 = .ok (.istore_n 2, 1) := by decide +kernel
theorem dX10_put_3 : decode cX10_put 3 = .ok (.iload_n 2, 1) := by decide +kernel
theorem dX10_put_4 : decode cX10_put 4 = .ok (.ifCond .lt 45, 3) := by decide +kernel
theorem dX10_put_7 : decode cX10_put 7 = .ok (.iload_n 1, 1) := by decide +kernel
theorem dX10_put_8 : decode cX10_put 8 = .ok (.iload_n 2, 1) := by decide +kernel
theorem dX10_put_9 : decode cX10_put 9 = .ok (.ishr, 1) := by decide +kernel
theorem dX10_put_10 : decode cX10_put 10 = .ok (.sipush 255, 3) := by decide +kernel
theorem dX10_put_13 : decode cX10_put 13 = .ok (.iand, 1) := by decide +kernel
theorem dX10_put_14 : decode cX10_put 14 = .ok (.ifCond .ne 6, 3) := by decide +kernel
theorem dX10_put_17 : decode cX10_put 17 = .ok (.goto 26, 3) := by decide +kernel
theorem dX10_put_20 : decode cX10_put 20 = .ok (.aload_n 0, 1) := by decide +kernel
theorem dX10_put_21 : decode cX10_put 21 = .ok (.getfield 9, 3) := by decide +kernel
theorem dX10_put_24 : decode cX10_put 24 = .ok (.aload_n 0, 1) := by decide +kernel
theorem dX10_put_25 : decode cX10_put 25 = .ok (.getfield 88, 3) := by decide +kernel
theorem dX10_put_28 : decode cX10_put 28 = .ok (.iload_n 1, 1) := by decide +kernel
theorem dX10_put_29 : decode cX10_put 29 = .ok (.iload_n 2, 1) := by decide +kernel
theorem dX10_put_30 : decode cX10_put 30 = .ok (.ishr, 1) := by decide +kernel
theorem dX10_put_31 : decode cX10_put 31 = .ok (.i2b, 1) := by decide +kernel
theorem dX10_put_32 : decode cX10_put 32 = .ok (.bastore, 1) := by decide +kernel
theorem dX10_put_33 : decode cX10_put 33 = .ok (.aload_n 0, 1) := by decide +kernel
theorem dX10_put_34 : decode cX10_put 34 = .ok (.dup, 1) := by decide +kernel
theorem dX10_put_35 : decode cX10_put 35 = .ok (.getfield 88, 3) := by decide +kernel
theorem dX10_put_38 : decode cX10_put 38 = .ok (.iconst 1, 1) := by decide +kernel
theorem dX10_put_39 : decode cX10_put 39 = .ok (.iadd, 1) := by decide +kernel
theorem dX10_put_40 : decode cX10_put 40 = .ok (.putfield 88, 3) := by decide +kernel
theorem dX10_put_43 : decode cX10_put 43 = .ok (.iinc 2 (-8), 3) := by decide +kernel
theorem dX10_put_46 : decode cX10_put 46 = .ok (.goto (-43), 3) := by decide +kernel
theorem dX10_put_49 : decode cX10_put 49 = .ok (.return_, 1) := by decide +kernel
theorem dX10_feed_0 : decode cX10_feed 0 = .ok (.aload_n 0, 1) := by decide +kernel
theorem dX10_feed_1 : decode cX10_feed 1 = .ok (.iconst 0, 1) := by decide +kernel
theorem dX10_feed_2 : decode cX10_feed 2 = .ok (.putfield 84, 3) := by decide +kernel
theorem dX10_feed_5 : decode cX10_feed 5 = .ok (.aload_n 0, 1) := by decide +kernel
theorem dX10_feed_6 : decode cX10_feed 6 = .ok (.getfield 88, 3) := by decide +kernel
theorem dX10_feed_9 : decode cX10_feed 9 = .ok (.iload_n 1, 1) := by decide +kernel
theorem dX10_feed_10 : decode cX10_feed 10 = .ok (.invokestatic 91, 3) := by decide +kernel
theorem dX10_feed_13 : decode cX10_feed 13 = .ok (.iadd, 1) := by decide +kernel
theorem dX10_feed_14 : decode cX10_feed 14 = .ok (.iload_n 2, 1) := by decide +kernel
theorem dX10_feed_15 : decode cX10_feed 15 = .ok (.invokestatic 91, 3) := by decide +kernel
theorem dX10_feed_18 : decode cX10_feed 18 = .ok (.iadd, 1) := by decide +kernel
theorem dX10_feed_19 : decode cX10_feed 19 = .ok (.iload_n 3, 1) := by decide +kernel
theorem dX10_feed_20 : decode cX10_feed 20 = .ok (.invokestatic 91, 3) := by decide +kernel
theorem dX10_feed_23 : decode cX10_feed 23 = .ok (.iadd, 1) := by decide +kernel
theorem dX10_feed_24 : decode cX10_feed 24 = .ok (.iload 4, 2) := by decide +kernel
theorem dX10_feed_26 : decode cX10_feed 26 = .ok (.invokestatic 91, 3) := by decide +kernel
theorem dX10_feed_29 : decode cX10_feed 29 = .ok (.iadd, 1) := by decide +kernel
theorem dX10_feed_30 : decode cX10_feed 30 = .ok (.iload 5, 2) := by decide +kernel
theorem dX10_feed_32 : decode cX10_feed 32 = .ok (.invokestatic 91, 3) := by decide +kernel
theorem dX10_feed_35 : decode cX10_feed 35 = .ok (.iadd, 1) := by decide +kernel
theorem dX10_feed_36 : decode cX10_feed 36 = .ok (.sipush 300, 3) := by decide +kernel
theorem dX10_feed_39 : decode cX10_feed 39 = .ok (.if_icmp .le 5, 3) := by decide +kernel
theorem dX10_feed_42 : decode cX10_feed 42 = .ok (.iconst (-1), 1) := by decide +kernel
theorem dX10_feed_43 : decode cX10_feed 43 = .ok (.ireturn, 1) := by decide +kernel
theorem dX10_feed_44 : decode cX10_feed 44 = .ok (.aload_n 0, 1) := by decide +kernel
theorem dX10_feed_45 : decode cX10_feed 45 = .ok (.iload_n 1, 1) := by decide +kernel
theorem dX10_feed_46 : decode cX10_feed 46 = .ok (.invokevirtual 95, 3) := by decide +kernel
theorem dX10_feed_49 : decode cX10_feed 49 = .ok (.aload_n 0, 1) := by decide +kernel
theorem dX10_feed_50 : decode cX10_feed 50 = .ok (.iload_n 2, 1) := by decide +kernel
theorem dX10_feed_51 : decode cX10_feed 51 = .ok (.invokevirtual 95, 3) := by decide +kernel
theorem dX10_feed_54 : decode cX10_feed 54 = .ok (.aload_n 0, 1) := by decide +kernel
theorem dX10_feed_55 : decode cX10_feed 55 = .ok (.iload_n 3, 1) := by decide +kernel
theorem dX10_feed_56 : decode cX10_feed 56 = .ok (.invokevirtual 95, 3) := by decide +kernel
theorem dX10_feed_59 : decode cX10_feed 59 = .ok (.aload_n 0, 1) := by decide +kernel
theorem dX10_feed_60 : decode cX10_feed 60 = .ok (.iload 4, 2) := by decide +kernel
theorem dX10_feed_62 : decode cX10_feed 62 = .ok (.invokevirtual 95, 3) := by decide +kernel
theorem dX10_feed_65 : decode cX10_feed 65 = .ok (.aload_n 0, 1) := by decide +kernel
theorem dX10_feed_66 : decode cX10_feed 66 = .ok (.iload 5, 2) := by decide +kernel
theorem dX10_feed_68 : decode cX10_feed 68 = .ok (.invokevirtual 95, 3) := by decide +kernel
theorem dX10_feed_71 : decode cX10_feed 71 = .ok (.aload_n 0, 1) := by decide +kernel
theorem dX10_feed_72 : decode cX10_feed 72 = .ok (.getfield 88, 3) := by decide +kernel
theorem dX10_feed_75 : decode cX10_feed 75 = .ok (.ireturn, 1) := by decide +kernel
theorem dX10_end_0 : decode cX10_end 0 = .ok (.aload_n 0, 1) := by decide +kernel
theorem dX10_end_1 : decode cX10_end 1 = .ok (.iconst 0, 1) := by decide +kernel
theorem dX10_end_2 : decode cX10_end 2 = .ok (.putfield 84, 3) := by decide +kernel
theorem dX10_end_5 : decode cX10_end 5 = .ok (.iload_n 1, 1) := by decide +kernel
theorem dX10_end_6 : decode cX10_end 6 = .ok (.ifCond .lt 11, 3) := by decide +kernel
theorem dX10_end_9 : decode cX10_end 9 = .ok (.iload_n 1, 1) := by decide +kernel
theorem dX10_end_10 : decode cX10_end 10 = .ok (.aload_n 0, 1) := by decide +kernel
theorem dX10_end_11 : decode cX10_end 11 = .ok (.getfield 88, 3) := by decide +kernel
theorem dX10_end_14 : decode cX10_end 14 = .ok (.if_icmp .le 5, 3) := by decide +kernel
theorem dX10_end_17 : decode cX10_end 17 = .ok (.iconst 0, 1) := by decide +kernel
theorem dX10_end_18 : decode cX10_end 18 = .ok (.ireturn, 1) := by decide +kernel
theorem dX10_end_19 : decode cX10_end 19 = .ok (.aload_n 0, 1) := by decide +kernel
theorem dX10_end_20 : decode cX10_end 20 = .ok (.iload_n 1, 1) := by decide +kernel
theorem dX10_end_21 : decode cX10_end 21 = .ok (.putfield 88, 3) := by decide +kernel
theorem dX10_end_24 : decode cX10_end 24 = .ok (.iconst 1, 1) := by decide +kernel
theorem dX10_end_25 : decode cX10_end 25 = .ok (.ireturn, 1) := by decide +kernel
theorem dX10_here_0 : decode cX10_here 0 = .ok (.aload_n 0, 1) := by decide +kernel
theorem dX10_here_1 : decode cX10_here 1 = .ok (.getfield 99, 3) := by decide +kernel
theorem dX10_here_4 : decode cX10_here 4 = .ok (.aload_n 0, 1) := by decide +kernel
theorem dX10_here_5 : decode cX10_here 5 = .ok (.getfield 88, 3) := by decide +kernel
theorem dX10_here_8 : decode cX10_here 8 = .ok (.if_icmp .ge 19, 3) := by decide +kernel
theorem dX10_here_11 : decode cX10_here 11 = .ok (.aload_n 0, 1) := by decide +kernel
theorem dX10_here_12 : decode cX10_here 12 = .ok (.getfield 9, 3) := by decide +kernel
theorem dX10_here_15 : decode cX10_here 15 = .ok (.aload_n 0, 1) := by decide +kernel
theorem dX10_here_16 : decode cX10_here 16 = .ok (.getfield 99, 3) := by decide +kernel
theorem dX10_here_19 : decode cX10_here 19 = .ok (.baload, 1) := by decide +kernel
theorem dX10_here_20 : decode cX10_here 20 = .ok (.sipush 255, 3) := by decide +kernel
theorem dX10_here_23 : decode cX10_here 23 = .ok (.iand, 1) := by decide +kernel
theorem dX10_here_24 : decode cX10_here 24 = .ok (.goto 4, 3) := by decide +kernel
theorem dX10_here_27 : decode cX10_here 27 = .ok (.iconst (-1), 1) := by decide +kernel
theorem dX10_here_28 : decode cX10_here 28 = .ok (.ireturn, 1) := by decide +kernel
theorem dX10_look_0 : decode cX10_look 0 = .ok (.aload_n 0, 1) := by decide +kernel
theorem dX10_look_1 : decode cX10_look 1 = .ok (.invokevirtual 102, 3) := by decide +kernel
theorem dX10_look_4 : decode cX10_look 4 = .ok (.bipush 32, 2) := by decide +kernel
theorem dX10_look_6 : decode cX10_look 6 = .ok (.if_icmp .ne 16, 3) := by decide +kernel
theorem dX10_look_9 : decode cX10_look 9 = .ok (.aload_n 0, 1) := by decide +kernel
theorem dX10_look_10 : decode cX10_look 10 = .ok (.dup, 1) := by decide +kernel
theorem dX10_look_11 : decode cX10_look 11 = .ok (.getfield 99, 3) := by decide +kernel
theorem dX10_look_14 : decode cX10_look 14 = .ok (.iconst 1, 1) := by decide +kernel
theorem dX10_look_15 : decode cX10_look 15 = .ok (.iadd, 1) := by decide +kernel
theorem dX10_look_16 : decode cX10_look 16 = .ok (.putfield 99, 3) := by decide +kernel
theorem dX10_look_19 : decode cX10_look 19 = .ok (.goto (-19), 3) := by decide +kernel
theorem dX10_look_22 : decode cX10_look 22 = .ok (.aload_n 0, 1) := by decide +kernel
theorem dX10_look_23 : decode cX10_look 23 = .ok (.invokevirtual 102, 3) := by decide +kernel
theorem dX10_look_26 : decode cX10_look 26 = .ok (.ireturn, 1) := by decide +kernel
theorem dX10_fails_0 : decode cX10_fails 0 = .ok (.aload_n 0, 1) := by decide +kernel
theorem dX10_fails_1 : decode cX10_fails 1 = .ok (.getfield 106, 3) := by decide +kernel
theorem dX10_fails_4 : decode cX10_fails 4 = .ok (.iconst (-1), 1) := by decide +kernel
theorem dX10_fails_5 : decode cX10_fails 5 = .ok (.if_icmp .ne 8, 3) := by decide +kernel
theorem dX10_fails_8 : decode cX10_fails 8 = .ok (.aload_n 0, 1) := by decide +kernel
theorem dX10_fails_9 : decode cX10_fails 9 = .ok (.iload_n 1, 1) := by decide +kernel
theorem dX10_fails_10 : decode cX10_fails 10 = .ok (.putfield 106, 3) := by decide +kernel
theorem dX10_fails_13 : decode cX10_fails 13 = .ok (.iconst 0, 1) := by decide +kernel
theorem dX10_fails_14 : decode cX10_fails 14 = .ok (.ireturn, 1) := by decide +kernel
theorem dX10_isDigit_0 : decode cX10_isDigit 0 = .ok (.aload_n 0, 1) := by decide +kernel
theorem dX10_isDigit_1 : decode cX10_isDigit 1 = .ok (.invokevirtual 102, 3) := by decide +kernel
theorem dX10_isDigit_4 : decode cX10_isDigit 4 = .ok (.bipush 48, 2) := by decide +kernel
theorem dX10_isDigit_6 : decode cX10_isDigit 6 = .ok (.if_icmp .lt 16, 3) := by decide +kernel
theorem dX10_isDigit_9 : decode cX10_isDigit 9 = .ok (.aload_n 0, 1) := by decide +kernel
theorem dX10_isDigit_10 : decode cX10_isDigit 10 = .ok (.invokevirtual 102, 3) := by decide +kernel
theorem dX10_isDigit_13 : decode cX10_isDigit 13 = .ok (.bipush 57, 2) := by decide +kernel
theorem dX10_isDigit_15 : decode cX10_isDigit 15 = .ok (.if_icmp .gt 7, 3) := by decide +kernel
theorem dX10_isDigit_18 : decode cX10_isDigit 18 = .ok (.iconst 1, 1) := by decide +kernel
theorem dX10_isDigit_19 : decode cX10_isDigit 19 = .ok (.goto 4, 3) := by decide +kernel
theorem dX10_isDigit_22 : decode cX10_isDigit 22 = .ok (.iconst 0, 1) := by decide +kernel
theorem dX10_isDigit_23 : decode cX10_isDigit 23 = .ok (.ireturn, 1) := by decide +kernel
theorem dX10_number_0 : decode cX10_number 0 = .ok (.aload_n 0, 1) := by decide +kernel
theorem dX10_number_1 : decode cX10_number 1 = .ok (.invokevirtual 102, 3) := by decide +kernel
theorem dX10_number_4 : decode cX10_number 4 = .ok (.bipush 32, 2) := by decide +kernel
theorem dX10_number_6 : decode cX10_number 6 = .ok (.if_icmp .eq 12, 3) := by decide +kernel
theorem dX10_number_9 : decode cX10_number 9 = .ok (.aload_n 0, 1) := by decide +kernel
theorem dX10_number_10 : decode cX10_number 10 = .ok (.aload_n 0, 1) := by decide +kernel
theorem dX10_number_11 : decode cX10_number 11 = .ok (.getfield 99, 3) := by decide +kernel
theorem dX10_number_14 : decode cX10_number 14 = .ok (.invokevirtual 109, 3) := by decide +kernel
theorem dX10_number_17 : decode cX10_number 17 = .ok (.ireturn, 1) := by decide +kernel
theorem dX10_number_18 : decode cX10_number 18 = .ok (.aload_n 0, 1) := by decide +kernel
theorem dX10_number_19 : decode cX10_number 19 = .ok (.invokevirtual 113, 3) := by decide +kernel
theorem dX10_number_22 : decode cX10_number 22 = .ok (.pop, 1) := by decide +kernel
theorem dX10_number_23 : decode cX10_number 23 = .ok (.aload_n 0, 1) := by decide +kernel
theorem dX10_number_24 : decode cX10_number 24 = .ok (.invokevirtual 116, 3) := by decide +kernel
theorem dX10_number_27 : decode cX10_number 27 = .ok (.ifCond .ne 12, 3) := by decide +kernel
theorem dX10_number_30 : decode cX10_number 30 = .ok (.aload_n 0, 1) := by decide +kernel
theorem dX10_number_31 : decode cX10_number 31 = .ok (.aload_n 0, 1) := by decide +kernel
theorem dX10_number_32 : decode cX10_number 32 = .ok (.getfield 99, 3) := by decide +kernel
theorem dX10_number_35 : decode cX10_number 35 = .ok (.invokevirtual 109, 3) := by decide +kernel
theorem dX10_number_38 : decode cX10_number 38 = .ok (.ireturn, 1) := by decide +kernel
theorem dX10_number_39 : decode cX10_number 39 = .ok (.aload_n 0, 1) := by decide +kernel
theorem dX10_number_40 : decode cX10_number 40 = .ok (.aload_n 0, 1) := by decide +kernel
theorem dX10_number_41 : decode cX10_number 41 = .ok (.invokevirtual 102, 3) := by decide +kernel
theorem dX10_number_44 : decode cX10_number 44 = .ok (.bipush 48, 2) := by decide +kernel
theorem dX10_number_46 : decode cX10_number 46 = .ok (.isub, 1) := by decide +kernel
theorem dX10_number_47 : decode cX10_number 47 = .ok (.putfield 120, 3) := by decide +kernel
theorem dX10_number_50 : decode cX10_number 50 = .ok (.aload_n 0, 1) := by decide +kernel
theorem dX10_number_51 : decode cX10_number 51 = .ok (.dup, 1) := by decide +kernel
theorem dX10_number_52 : decode cX10_number 52 = .ok (.getfield 99, 3) := by decide +kernel
theorem dX10_number_55 : decode cX10_number 55 = .ok (.iconst 1, 1) := by decide +kernel
theorem dX10_number_56 : decode cX10_number 56 = .ok (.iadd, 1) := by decide +kernel
theorem dX10_number_57 : decode cX10_number 57 = .ok (.putfield 99, 3) := by decide +kernel
theorem dX10_number_60 : decode cX10_number 60 = .ok (.aload_n 0, 1) := by decide +kernel
theorem dX10_number_61 : decode cX10_number 61 = .ok (.invokevirtual 116, 3) := by decide +kernel
theorem dX10_number_64 : decode cX10_number 64 = .ok (.ifCond .eq 32, 3) := by decide +kernel
theorem dX10_number_67 : decode cX10_number 67 = .ok (.aload_n 0, 1) := by decide +kernel
theorem dX10_number_68 : decode cX10_number 68 = .ok (.bipush 10, 2) := by decide +kernel
theorem dX10_number_70 : decode cX10_number 70 = .ok (.aload_n 0, 1) := by decide +kernel
theorem dX10_number_71 : decode cX10_number 71 = .ok (.getfield 120, 3) := by decide +kernel
theorem dX10_number_74 : decode cX10_number 74 = .ok (.imul, 1) := by decide +kernel
theorem dX10_number_75 : decode cX10_number 75 = .ok (.aload_n 0, 1) := by decide +kernel
theorem dX10_number_76 : decode cX10_number 76 = .ok (.invokevirtual 102, 3) := by decide +kernel
theorem dX10_number_79 : decode cX10_number 79 = .ok (.iadd, 1) := by decide +kernel
theorem dX10_number_80 : decode cX10_number 80 = .ok (.bipush 48, 2) := by decide +kernel
theorem dX10_number_82 : decode cX10_number 82 = .ok (.isub, 1) := by decide +kernel
theorem dX10_number_83 : decode cX10_number 83 = .ok (.putfield 120, 3) := by decide +kernel
theorem dX10_number_86 : decode cX10_number 86 = .ok (.aload_n 0, 1) := by decide +kernel
theorem dX10_number_87 : decode cX10_number 87 = .ok (.dup, 1) := by decide +kernel
theorem dX10_number_88 : decode cX10_number 88 = .ok (.getfield 99, 3) := by decide +kernel
theorem dX10_number_91 : decode cX10_number 91 = .ok (.iconst 1, 1) := by decide +kernel
theorem dX10_number_92 : decode cX10_number 92 = .ok (.iadd, 1) := by decide +kernel
theorem dX10_number_93 : decode cX10_number 93 = .ok (.putfield 99, 3) := by decide +kernel
theorem dX10_number_96 : decode cX10_number 96 = .ok (.aload_n 0, 1) := by decide +kernel
theorem dX10_number_97 : decode cX10_number 97 = .ok (.getfield 120, 3) := by decide +kernel
theorem dX10_number_100 : decode cX10_number 100 = .ok (.iload_n 1, 1) := by decide +kernel
theorem dX10_number_101 : decode cX10_number 101 = .ok (.iload_n 2, 1) := by decide +kernel
theorem dX10_number_102 : decode cX10_number 102 = .ok (.invokestatic 123, 3) := by decide +kernel
theorem dX10_number_105 : decode cX10_number 105 = .ok (.ifCond .eq 26, 3) := by decide +kernel
theorem dX10_number_108 : decode cX10_number 108 = .ok (.iload_n 3, 1) := by decide +kernel
theorem dX10_number_109 : decode cX10_number 109 = .ok (.iconst (-1), 1) := by decide +kernel
theorem dX10_number_110 : decode cX10_number 110 = .ok (.if_icmp .eq 32, 3) := by decide +kernel
theorem dX10_number_113 : decode cX10_number 113 = .ok (.aload_n 0, 1) := by decide +kernel
theorem dX10_number_114 : decode cX10_number 114 = .ok (.getfield 20, 3) := by decide +kernel
theorem dX10_number_117 : decode cX10_number 117 = .ok (.bipush 8, 2) := by decide +kernel
theorem dX10_number_119 : decode cX10_number 119 = .ok (.iload_n 3, 1) := by decide +kernel
theorem dX10_number_120 : decode cX10_number 120 = .ok (.imul, 1) := by decide +kernel
theorem dX10_number_121 : decode cX10_number 121 = .ok (.aload_n 0, 1) := by decide +kernel
theorem dX10_number_122 : decode cX10_number 122 = .ok (.getfield 120, 3) := by decide +kernel
theorem dX10_number_125 : decode cX10_number 125 = .ok (.iadd, 1) := by decide +kernel
theorem dX10_number_126 : decode cX10_number 126 = .ok (.iaload, 1) := by decide +kernel
theorem dX10_number_127 : decode cX10_number 127 = .ok (.iconst (-1), 1) := by decide +kernel
theorem dX10_number_128 : decode cX10_number 128 = .ok (.if_icmp .eq 14, 3) := by decide +kernel
theorem dX10_number_131 : decode cX10_number 131 = .ok (.aload_n 0, 1) := by decide +kernel
theorem dX10_number_132 : decode cX10_number 132 = .ok (.aload_n 0, 1) := by decide +kernel
theorem dX10_number_133 : decode cX10_number 133 = .ok (.getfield 99, 3) := by decide +kernel
theorem dX10_number_136 : decode cX10_number 136 = .ok (.iconst 1, 1) := by decide +kernel
theorem dX10_number_137 : decode cX10_number 137 = .ok (.isub, 1) := by decide +kernel
theorem dX10_number_138 : decode cX10_number 138 = .ok (.invokevirtual 109, 3) := by decide +kernel
theorem dX10_number_141 : decode cX10_number 141 = .ok (.ireturn, 1) := by decide +kernel
theorem dX10_number_142 : decode cX10_number 142 = .ok (.aload_n 0, 1) := by decide +kernel
theorem dX10_number_143 : decode cX10_number 143 = .ok (.invokevirtual 116, 3) := by decide +kernel
theorem dX10_number_146 : decode cX10_number 146 = .ok (.ifCond .eq 14, 3) := by decide +kernel
theorem dX10_number_149 : decode cX10_number 149 = .ok (.aload_n 0, 1) := by decide +kernel
theorem dX10_number_150 : decode cX10_number 150 = .ok (.aload_n 0, 1) := by decide +kernel
theorem dX10_number_151 : decode cX10_number 151 = .ok (.getfield 99, 3) := by decide +kernel
theorem dX10_number_154 : decode cX10_number 154 = .ok (.invokevirtual 109, 3) := by decide +kernel
theorem dX10_number_157 : decode cX10_number 157 = .ok (.ifCond .eq 7, 3) := by decide +kernel
theorem dX10_number_160 : decode cX10_number 160 = .ok (.iconst 1, 1) := by decide +kernel
theorem dX10_number_161 : decode cX10_number 161 = .ok (.goto 4, 3) := by decide +kernel
theorem dX10_number_164 : decode cX10_number 164 = .ok (.iconst 0, 1) := by decide +kernel
theorem dX10_number_165 : decode cX10_number 165 = .ok (.ireturn, 1) := by decide +kernel
theorem dX10_readWant_0 : decode cX10_readWant 0 = .ok (.bipush 20, 2) := by decide +kernel
theorem dX10_readWant_2 : decode cX10_readWant 2 = .ok (.iload_n 1, 1) := by decide +kernel
theorem dX10_readWant_3 : decode cX10_readWant 3 = .ok (.imul, 1) := by decide +kernel
theorem dX10_readWant_4 : decode cX10_readWant 4 = .ok (.aload_n 0, 1) := by decide +kernel
theorem dX10_readWant_5 : decode cX10_readWant 5 = .ok (.getfield 26, 3) := by decide +kernel
theorem dX10_readWant_8 : decode cX10_readWant 8 = .ok (.iload_n 1, 1) := by decide +kernel
theorem dX10_readWant_9 : decode cX10_readWant 9 = .ok (.iaload, 1) := by decide +kernel
theorem dX10_readWant_10 : decode cX10_readWant 10 = .ok (.iadd, 1) := by decide +kernel
theorem dX10_readWant_11 : decode cX10_readWant 11 = .ok (.istore_n 2, 1) := by decide +kernel
theorem dX10_readWant_12 : decode cX10_readWant 12 = .ok (.aload_n 0, 1) := by decide +kernel
theorem dX10_readWant_13 : decode cX10_readWant 13 = .ok (.iconst 0, 1) := by decide +kernel
theorem dX10_readWant_14 : decode cX10_readWant 14 = .ok (.aload_n 0, 1) := by decide +kernel
theorem dX10_readWant_15 : decode cX10_readWant 15 = .ok (.getfield 13, 3) := by decide +kernel
theorem dX10_readWant_18 : decode cX10_readWant 18 = .ok (.iload_n 1, 1) := by decide +kernel
theorem dX10_readWant_19 : decode cX10_readWant 19 = .ok (.iaload, 1) := by decide +kernel
theorem dX10_readWant_20 : decode cX10_readWant 20 = .ok (.iconst 1, 1) := by decide +kernel
theorem dX10_readWant_21 : decode cX10_readWant 21 = .ok (.isub, 1) := by decide +kernel
theorem dX10_readWant_22 : decode cX10_readWant 22 = .ok (.iconst (-1), 1) := by decide +kernel
theorem dX10_readWant_23 : decode cX10_readWant 23 = .ok (.invokevirtual 127, 3) := by decide +kernel
theorem dX10_readWant_26 : decode cX10_readWant 26 = .ok (.ifCond .ne 5, 3) := by decide +kernel
theorem dX10_readWant_29 : decode cX10_readWant 29 = .ok (.iconst 0, 1) := by decide +kernel
theorem dX10_readWant_30 : decode cX10_readWant 30 = .ok (.ireturn, 1) := by decide +kernel
theorem dX10_readWant_31 : decode cX10_readWant 31 = .ok (.aload_n 0, 1) := by decide +kernel
theorem dX10_readWant_32 : decode cX10_readWant 32 = .ok (.getfield 29, 3) := by decide +kernel
theorem dX10_readWant_35 : decode cX10_readWant 35 = .ok (.iload_n 2, 1) := by decide +kernel
theorem dX10_readWant_36 : decode cX10_readWant 36 = .ok (.aload_n 0, 1) := by decide +kernel
theorem dX10_readWant_37 : decode cX10_readWant 37 = .ok (.getfield 120, 3) := by decide +kernel
theorem dX10_readWant_40 : decode cX10_readWant 40 = .ok (.iastore, 1) := by decide +kernel
theorem dX10_readWant_41 : decode cX10_readWant 41 = .ok (.aload_n 0, 1) := by decide +kernel
theorem dX10_readWant_42 : decode cX10_readWant 42 = .ok (.iconst 1, 1) := by decide +kernel
theorem dX10_readWant_43 : decode cX10_readWant 43 = .ok (.bipush 40, 2) := by decide +kernel
theorem dX10_readWant_45 : decode cX10_readWant 45 = .ok (.iconst (-1), 1) := by decide +kernel
theorem dX10_readWant_46 : decode cX10_readWant 46 = .ok (.invokevirtual 127, 3) := by decide +kernel
theorem dX10_readWant_49 : decode cX10_readWant 49 = .ok (.ifCond .ne 5, 3) := by decide +kernel
theorem dX10_readWant_52 : decode cX10_readWant 52 = .ok (.iconst 0, 1) := by decide +kernel
theorem dX10_readWant_53 : decode cX10_readWant 53 = .ok (.ireturn, 1) := by decide +kernel
theorem dX10_readWant_54 : decode cX10_readWant 54 = .ok (.aload_n 0, 1) := by decide +kernel
theorem dX10_readWant_55 : decode cX10_readWant 55 = .ok (.getfield 32, 3) := by decide +kernel
theorem dX10_readWant_58 : decode cX10_readWant 58 = .ok (.iload_n 2, 1) := by decide +kernel
theorem dX10_readWant_59 : decode cX10_readWant 59 = .ok (.aload_n 0, 1) := by decide +kernel
theorem dX10_readWant_60 : decode cX10_readWant 60 = .ok (.getfield 120, 3) := by decide +kernel
theorem dX10_readWant_63 : decode cX10_readWant 63 = .ok (.iastore, 1) := by decide +kernel
theorem dX10_readWant_64 : decode cX10_readWant 64 = .ok (.aload_n 0, 1) := by decide +kernel
theorem dX10_readWant_65 : decode cX10_readWant 65 = .ok (.iconst 1, 1) := by decide +kernel
theorem dX10_readWant_66 : decode cX10_readWant 66 = .ok (.bipush 30, 2) := by decide +kernel
theorem dX10_readWant_68 : decode cX10_readWant 68 = .ok (.iconst (-1), 1) := by decide +kernel
theorem dX10_readWant_69 : decode cX10_readWant 69 = .ok (.invokevirtual 127, 3) := by decide +kernel
theorem dX10_readWant_72 : decode cX10_readWant 72 = .ok (.ifCond .ne 5, 3) := by decide +kernel
theorem dX10_readWant_75 : decode cX10_readWant 75 = .ok (.iconst 0, 1) := by decide +kernel
theorem dX10_readWant_76 : decode cX10_readWant 76 = .ok (.ireturn, 1) := by decide +kernel
theorem dX10_readWant_77 : decode cX10_readWant 77 = .ok (.aload_n 0, 1) := by decide +kernel
theorem dX10_readWant_78 : decode cX10_readWant 78 = .ok (.getfield 35, 3) := by decide +kernel
theorem dX10_readWant_81 : decode cX10_readWant 81 = .ok (.iload_n 2, 1) := by decide +kernel
theorem dX10_readWant_82 : decode cX10_readWant 82 = .ok (.aload_n 0, 1) := by decide +kernel
theorem dX10_readWant_83 : decode cX10_readWant 83 = .ok (.getfield 120, 3) := by decide +kernel
theorem dX10_readWant_86 : decode cX10_readWant 86 = .ok (.iastore, 1) := by decide +kernel
theorem dX10_readWant_87 : decode cX10_readWant 87 = .ok (.aload_n 0, 1) := by decide +kernel
theorem dX10_readWant_88 : decode cX10_readWant 88 = .ok (.getfield 26, 3) := by decide +kernel
theorem dX10_readWant_91 : decode cX10_readWant 91 = .ok (.iload_n 1, 1) := by decide +kernel
theorem dX10_readWant_92 : decode cX10_readWant 92 = .ok (.dup2, 1) := by decide +kernel
theorem dX10_readWant_93 : decode cX10_readWant 93 = .ok (.iaload, 1) := by decide +kernel
theorem dX10_readWant_94 : decode cX10_readWant 94 = .ok (.iconst 1, 1) := by decide +kernel
theorem dX10_readWant_95 : decode cX10_readWant 95 = .ok (.iadd, 1) := by decide +kernel
theorem dX10_readWant_96 : decode cX10_readWant 96 = .ok (.iastore, 1) := by decide +kernel
theorem dX10_readWant_97 : decode cX10_readWant 97 = .ok (.iconst 1, 1) := by decide +kernel
theorem dX10_readWant_98 : decode cX10_readWant 98 = .ok (.ireturn, 1) := by decide +kernel
theorem dX10_readBuys_0 : decode cX10_readBuys 0 = .ok (.aload_n 0, 1) := by decide +kernel
theorem dX10_readBuys_1 : decode cX10_readBuys 1 = .ok (.iconst 0, 1) := by decide +kernel
theorem dX10_readBuys_2 : decode cX10_readBuys 2 = .ok (.aload_n 0, 1) := by decide +kernel
theorem dX10_readBuys_3 : decode cX10_readBuys 3 = .ok (.getfield 13, 3) := by decide +kernel
theorem dX10_readBuys_6 : decode cX10_readBuys 6 = .ok (.iload_n 1, 1) := by decide +kernel
theorem dX10_readBuys_7 : decode cX10_readBuys 7 = .ok (.iaload, 1) := by decide +kernel
theorem dX10_readBuys_8 : decode cX10_readBuys 8 = .ok (.iconst 1, 1) := by decide +kernel
theorem dX10_readBuys_9 : decode cX10_readBuys 9 = .ok (.isub, 1) := by decide +kernel
theorem dX10_readBuys_10 : decode cX10_readBuys 10 = .ok (.iconst (-1), 1) := by decide +kernel
theorem dX10_readBuys_11 : decode cX10_readBuys 11 = .ok (.invokevirtual 127, 3) := by decide +kernel
theorem dX10_readBuys_14 : decode cX10_readBuys 14 = .ok (.ifCond .ne 5, 3) := by decide +kernel
theorem dX10_readBuys_17 : decode cX10_readBuys 17 = .ok (.iconst 0, 1) := by decide +kernel
theorem dX10_readBuys_18 : decode cX10_readBuys 18 = .ok (.ireturn, 1) := by decide +kernel
theorem dX10_readBuys_19 : decode cX10_readBuys 19 = .ok (.aload_n 0, 1) := by decide +kernel
theorem dX10_readBuys_20 : decode cX10_readBuys 20 = .ok (.getfield 120, 3) := by decide +kernel
theorem dX10_readBuys_23 : decode cX10_readBuys 23 = .ok (.istore_n 2, 1) := by decide +kernel
theorem dX10_readBuys_24 : decode cX10_readBuys 24 = .ok (.aload_n 0, 1) := by decide +kernel
theorem dX10_readBuys_25 : decode cX10_readBuys 25 = .ok (.iload_n 2, 1) := by decide +kernel
theorem dX10_readBuys_26 : decode cX10_readBuys 26 = .ok (.iconst 1, 1) := by decide +kernel
theorem dX10_readBuys_27 : decode cX10_readBuys 27 = .ok (.iadd, 1) := by decide +kernel
theorem dX10_readBuys_28 : decode cX10_readBuys 28 = .ok (.aload_n 0, 1) := by decide +kernel
theorem dX10_readBuys_29 : decode cX10_readBuys 29 = .ok (.getfield 13, 3) := by decide +kernel
theorem dX10_readBuys_32 : decode cX10_readBuys 32 = .ok (.iload_n 1, 1) := by decide +kernel
theorem dX10_readBuys_33 : decode cX10_readBuys 33 = .ok (.iaload, 1) := by decide +kernel
theorem dX10_readBuys_34 : decode cX10_readBuys 34 = .ok (.iconst 1, 1) := by decide +kernel
theorem dX10_readBuys_35 : decode cX10_readBuys 35 = .ok (.isub, 1) := by decide +kernel
theorem dX10_readBuys_36 : decode cX10_readBuys 36 = .ok (.iload_n 1, 1) := by decide +kernel
theorem dX10_readBuys_37 : decode cX10_readBuys 37 = .ok (.invokevirtual 127, 3) := by decide +kernel
theorem dX10_readBuys_40 : decode cX10_readBuys 40 = .ok (.ifCond .ne 5, 3) := by decide +kernel
theorem dX10_readBuys_43 : decode cX10_readBuys 43 = .ok (.iconst 0, 1) := by decide +kernel
theorem dX10_readBuys_44 : decode cX10_readBuys 44 = .ok (.ireturn, 1) := by decide +kernel
theorem dX10_readBuys_45 : decode cX10_readBuys 45 = .ok (.aload_n 0, 1) := by decide +kernel
theorem dX10_readBuys_46 : decode cX10_readBuys 46 = .ok (.getfield 20, 3) := by decide +kernel
theorem dX10_readBuys_49 : decode cX10_readBuys 49 = .ok (.bipush 8, 2) := by decide +kernel
theorem dX10_readBuys_51 : decode cX10_readBuys 51 = .ok (.iload_n 1, 1) := by decide +kernel
theorem dX10_readBuys_52 : decode cX10_readBuys 52 = .ok (.imul, 1) := by decide +kernel
theorem dX10_readBuys_53 : decode cX10_readBuys 53 = .ok (.aload_n 0, 1) := by decide +kernel
theorem dX10_readBuys_54 : decode cX10_readBuys 54 = .ok (.getfield 120, 3) := by decide +kernel
theorem dX10_readBuys_57 : decode cX10_readBuys 57 = .ok (.iadd, 1) := by decide +kernel
theorem dX10_readBuys_58 : decode cX10_readBuys 58 = .ok (.iload_n 2, 1) := by decide +kernel
theorem dX10_readBuys_59 : decode cX10_readBuys 59 = .ok (.iastore, 1) := by decide +kernel
theorem dX10_readBuys_60 : decode cX10_readBuys 60 = .ok (.iconst 1, 1) := by decide +kernel
theorem dX10_readBuys_61 : decode cX10_readBuys 61 = .ok (.ireturn, 1) := by decide +kernel
theorem dX10_readTold_0 : decode cX10_readTold 0 = .ok (.aload_n 0, 1) := by decide +kernel
theorem dX10_readTold_1 : decode cX10_readTold 1 = .ok (.iconst 0, 1) := by decide +kernel
theorem dX10_readTold_2 : decode cX10_readTold 2 = .ok (.aload_n 0, 1) := by decide +kernel
theorem dX10_readTold_3 : decode cX10_readTold 3 = .ok (.getfield 13, 3) := by decide +kernel
theorem dX10_readTold_6 : decode cX10_readTold 6 = .ok (.iload_n 1, 1) := by decide +kernel
theorem dX10_readTold_7 : decode cX10_readTold 7 = .ok (.iaload, 1) := by decide +kernel
theorem dX10_readTold_8 : decode cX10_readTold 8 = .ok (.iconst 1, 1) := by decide +kernel
theorem dX10_readTold_9 : decode cX10_readTold 9 = .ok (.isub, 1) := by decide +kernel
theorem dX10_readTold_10 : decode cX10_readTold 10 = .ok (.iconst (-1), 1) := by decide +kernel
theorem dX10_readTold_11 : decode cX10_readTold 11 = .ok (.invokevirtual 127, 3) := by decide +kernel
theorem dX10_readTold_14 : decode cX10_readTold 14 = .ok (.ifCond .ne 5, 3) := by decide +kernel
theorem dX10_readTold_17 : decode cX10_readTold 17 = .ok (.iconst 0, 1) := by decide +kernel
theorem dX10_readTold_18 : decode cX10_readTold 18 = .ok (.ireturn, 1) := by decide +kernel
theorem dX10_readTold_19 : decode cX10_readTold 19 = .ok (.aload_n 0, 1) := by decide +kernel
theorem dX10_readTold_20 : decode cX10_readTold 20 = .ok (.getfield 120, 3) := by decide +kernel
theorem dX10_readTold_23 : decode cX10_readTold 23 = .ok (.istore 4, 2) := by decide +kernel
theorem dX10_readTold_25 : decode cX10_readTold 25 = .ok (.aload_n 0, 1) := by decide +kernel
theorem dX10_readTold_26 : decode cX10_readTold 26 = .ok (.iconst 0, 1) := by decide +kernel
theorem dX10_readTold_27 : decode cX10_readTold 27 = .ok (.iload_n 3, 1) := by decide +kernel
theorem dX10_readTold_28 : decode cX10_readTold 28 = .ok (.iconst (-1), 1) := by decide +kernel
theorem dX10_readTold_29 : decode cX10_readTold 29 = .ok (.invokevirtual 127, 3) := by decide +kernel
theorem dX10_readTold_32 : decode cX10_readTold 32 = .ok (.ifCond .ne 5, 3) := by decide +kernel
theorem dX10_readTold_35 : decode cX10_readTold 35 = .ok (.iconst 0, 1) := by decide +kernel
theorem dX10_readTold_36 : decode cX10_readTold 36 = .ok (.ireturn, 1) := by decide +kernel
theorem dX10_readTold_37 : decode cX10_readTold 37 = .ok (.aload_n 2, 1) := by decide +kernel
theorem dX10_readTold_38 : decode cX10_readTold 38 = .ok (.bipush 8, 2) := by decide +kernel
theorem dX10_readTold_40 : decode cX10_readTold 40 = .ok (.iload_n 1, 1) := by decide +kernel
theorem dX10_readTold_41 : decode cX10_readTold 41 = .ok (.imul, 1) := by decide +kernel
theorem dX10_readTold_42 : decode cX10_readTold 42 = .ok (.iload 4, 2) := by decide +kernel
theorem dX10_readTold_44 : decode cX10_readTold 44 = .ok (.iadd, 1) := by decide +kernel
theorem dX10_readTold_45 : decode cX10_readTold 45 = .ok (.aload_n 0, 1) := by decide +kernel
theorem dX10_readTold_46 : decode cX10_readTold 46 = .ok (.getfield 120, 3) := by decide +kernel
theorem dX10_readTold_49 : decode cX10_readTold 49 = .ok (.iastore, 1) := by decide +kernel
theorem dX10_readTold_50 : decode cX10_readTold 50 = .ok (.iconst 1, 1) := by decide +kernel
theorem dX10_readTold_51 : decode cX10_readTold 51 = .ok (.ireturn, 1) := by decide +kernel
theorem dX10_statement_0 : decode cX10_statement 0 = .ok (.aload_n 0, 1) := by decide +kernel
theorem dX10_statement_1 : decode cX10_statement 1 = .ok (.invokevirtual 113, 3) := by decide +kernel
theorem dX10_statement_4 : decode cX10_statement 4 = .ok (.istore_n 2, 1) := by decide +kernel
theorem dX10_statement_5 : decode cX10_statement 5 = .ok (.iload_n 2, 1) := by decide +kernel
theorem dX10_statement_6 : decode cX10_statement 6 = .ok (.bipush 99, 2) := by decide +kernel
theorem dX10_statement_8 : decode cX10_statement 8 = .ok (.if_icmp .eq 32, 3) := by decide +kernel
theorem dX10_statement_11 : decode cX10_statement 11 = .ok (.iload_n 2, 1) := by decide +kernel
theorem dX10_statement_12 : decode cX10_statement 12 = .ok (.bipush 98, 2) := by decide +kernel
theorem dX10_statement_14 : decode cX10_statement 14 = .ok (.if_icmp .eq 26, 3) := by decide +kernel
theorem dX10_statement_17 : decode cX10_statement 17 = .ok (.iload_n 2, 1) := by decide +kernel
theorem dX10_statement_18 : decode cX10_statement 18 = .ok (.bipush 101, 2) := by decide +kernel
theorem dX10_statement_20 : decode cX10_statement 20 = .ok (.if_icmp .eq 20, 3) := by decide +kernel
theorem dX10_statement_23 : decode cX10_statement 23 = .ok (.iload_n 2, 1) := by decide +kernel
theorem dX10_statement_24 : decode cX10_statement 24 = .ok (.bipush 119, 2) := by decide +kernel
theorem dX10_statement_26 : decode cX10_statement 26 = .ok (.if_icmp .ne 18, 3) := by decide +kernel
theorem dX10_statement_29 : decode cX10_statement 29 = .ok (.aload_n 0, 1) := by decide +kernel
theorem dX10_statement_30 : decode cX10_statement 30 = .ok (.getfield 26, 3) := by decide +kernel
theorem dX10_statement_33 : decode cX10_statement 33 = .ok (.iload_n 1, 1) := by decide +kernel
theorem dX10_statement_34 : decode cX10_statement 34 = .ok (.iaload, 1) := by decide +kernel
theorem dX10_statement_35 : decode cX10_statement 35 = .ok (.bipush 20, 2) := by decide +kernel
theorem dX10_statement_37 : decode cX10_statement 37 = .ok (.if_icmp .ge 7, 3) := by decide +kernel
theorem dX10_statement_40 : decode cX10_statement 40 = .ok (.iconst 1, 1) := by decide +kernel
theorem dX10_statement_41 : decode cX10_statement 41 = .ok (.goto 4, 3) := by decide +kernel
theorem dX10_statement_44 : decode cX10_statement 44 = .ok (.iconst 0, 1) := by decide +kernel
theorem dX10_statement_45 : decode cX10_statement 45 = .ok (.istore_n 3, 1) := by decide +kernel
theorem dX10_statement_46 : decode cX10_statement 46 = .ok (.iload_n 3, 1) := by decide +kernel
theorem dX10_statement_47 : decode cX10_statement 47 = .ok (.ifCond .ne 12, 3) := by decide +kernel
theorem dX10_statement_50 : decode cX10_statement 50 = .ok (.aload_n 0, 1) := by decide +kernel
theorem dX10_statement_51 : decode cX10_statement 51 = .ok (.aload_n 0, 1) := by decide +kernel
theorem dX10_statement_52 : decode cX10_statement 52 = .ok (.getfield 99, 3) := by decide +kernel
theorem dX10_statement_55 : decode cX10_statement 55 = .ok (.invokevirtual 109, 3) := by decide +kernel
theorem dX10_statement_58 : decode cX10_statement 58 = .ok (.ireturn, 1) := by decide +kernel
theorem dX10_statement_59 : decode cX10_statement 59 = .ok (.aload_n 0, 1) := by decide +kernel
theorem dX10_statement_60 : decode cX10_statement 60 = .ok (.dup, 1) := by decide +kernel
theorem dX10_statement_61 : decode cX10_statement 61 = .ok (.getfield 99, 3) := by decide +kernel
theorem dX10_statement_64 : decode cX10_statement 64 = .ok (.iconst 1, 1) := by decide +kernel
theorem dX10_statement_65 : decode cX10_statement 65 = .ok (.iadd, 1) := by decide +kernel
theorem dX10_statement_66 : decode cX10_statement 66 = .ok (.putfield 99, 3) := by decide +kernel
theorem dX10_statement_69 : decode cX10_statement 69 = .ok (.iload_n 2, 1) := by decide +kernel
theorem dX10_statement_70 : decode cX10_statement 70 = .ok (.bipush 99, 2) := by decide +kernel
theorem dX10_statement_72 : decode cX10_statement 72 = .ok (.if_icmp .ne 17, 3) := by decide +kernel
theorem dX10_statement_75 : decode cX10_statement 75 = .ok (.aload_n 0, 1) := by decide +kernel
theorem dX10_statement_76 : decode cX10_statement 76 = .ok (.iload_n 1, 1) := by decide +kernel
theorem dX10_statement_77 : decode cX10_statement 77 = .ok (.aload_n 0, 1) := by decide +kernel
theorem dX10_statement_78 : decode cX10_statement 78 = .ok (.getfield 17, 3) := by decide +kernel
theorem dX10_statement_81 : decode cX10_statement 81 = .ok (.bipush 30, 2) := by decide +kernel
theorem dX10_statement_83 : decode cX10_statement 83 = .ok (.invokevirtual 129, 3) := by decide +kernel
theorem dX10_statement_86 : decode cX10_statement 86 = .ok (.goto 42, 3) := by decide +kernel
theorem dX10_statement_89 : decode cX10_statement 89 = .ok (.iload_n 2, 1) := by decide +kernel
theorem dX10_statement_90 : decode cX10_statement 90 = .ok (.bipush 101, 2) := by decide +kernel
theorem dX10_statement_92 : decode cX10_statement 92 = .ok (.if_icmp .ne 17, 3) := by decide +kernel
theorem dX10_statement_95 : decode cX10_statement 95 = .ok (.aload_n 0, 1) := by decide +kernel
theorem dX10_statement_96 : decode cX10_statement 96 = .ok (.iload_n 1, 1) := by decide +kernel
theorem dX10_statement_97 : decode cX10_statement 97 = .ok (.aload_n 0, 1) := by decide +kernel
theorem dX10_statement_98 : decode cX10_statement 98 = .ok (.getfield 23, 3) := by decide +kernel
theorem dX10_statement_101 : decode cX10_statement 101 = .ok (.bipush 99, 2) := by decide +kernel
theorem dX10_statement_103 : decode cX10_statement 103 = .ok (.invokevirtual 129, 3) := by decide +kernel
theorem dX10_statement_106 : decode cX10_statement 106 = .ok (.goto 22, 3) := by decide +kernel
theorem dX10_statement_109 : decode cX10_statement 109 = .ok (.iload_n 2, 1) := by decide +kernel
theorem dX10_statement_110 : decode cX10_statement 110 = .ok (.bipush 98, 2) := by decide +kernel
theorem dX10_statement_112 : decode cX10_statement 112 = .ok (.if_icmp .ne 11, 3) := by decide +kernel
theorem dX10_statement_115 : decode cX10_statement 115 = .ok (.aload_n 0, 1) := by decide +kernel
theorem dX10_statement_116 : decode cX10_statement 116 = .ok (.iload_n 1, 1) := by decide +kernel
theorem dX10_statement_117 : decode cX10_statement 117 = .ok (.invokevirtual 133, 3) := by decide +kernel
theorem dX10_statement_120 : decode cX10_statement 120 = .ok (.goto 8, 3) := by decide +kernel
theorem dX10_statement_123 : decode cX10_statement 123 = .ok (.aload_n 0, 1) := by decide +kernel
theorem dX10_statement_124 : decode cX10_statement 124 = .ok (.iload_n 1, 1) := by decide +kernel
theorem dX10_statement_125 : decode cX10_statement 125 = .ok (.invokevirtual 136, 3) := by decide +kernel
theorem dX10_statement_128 : decode cX10_statement 128 = .ok (.ireturn, 1) := by decide +kernel
theorem dX10_readTrade_0 : decode cX10_readTrade 0 = .ok (.aload_n 0, 1) := by decide +kernel
theorem dX10_readTrade_1 : decode cX10_readTrade 1 = .ok (.getfield 139, 3) := by decide +kernel
theorem dX10_readTrade_4 : decode cX10_readTrade 4 = .ok (.istore_n 1, 1) := by decide +kernel
theorem dX10_readTrade_5 : decode cX10_readTrade 5 = .ok (.aload_n 0, 1) := by decide +kernel
theorem dX10_readTrade_6 : decode cX10_readTrade 6 = .ok (.iconst 0, 1) := by decide +kernel
theorem dX10_readTrade_7 : decode cX10_readTrade 7 = .ok (.putfield 99, 3) := by decide +kernel
theorem dX10_readTrade_10 : decode cX10_readTrade 10 = .ok (.aload_n 0, 1) := by decide +kernel
theorem dX10_readTrade_11 : decode cX10_readTrade 11 = .ok (.iconst (-1), 1) := by decide +kernel
theorem dX10_readTrade_12 : decode cX10_readTrade 12 = .ok (.putfield 106, 3) := by decide +kernel
theorem dX10_readTrade_15 : decode cX10_readTrade 15 = .ok (.aload_n 0, 1) := by decide +kernel
theorem dX10_readTrade_16 : decode cX10_readTrade 16 = .ok (.getfield 26, 3) := by decide +kernel
theorem dX10_readTrade_19 : decode cX10_readTrade 19 = .ok (.iload_n 1, 1) := by decide +kernel
theorem dX10_readTrade_20 : decode cX10_readTrade 20 = .ok (.iconst 0, 1) := by decide +kernel
theorem dX10_readTrade_21 : decode cX10_readTrade 21 = .ok (.iastore, 1) := by decide +kernel
theorem dX10_readTrade_22 : decode cX10_readTrade 22 = .ok (.iconst 0, 1) := by decide +kernel
theorem dX10_readTrade_23 : decode cX10_readTrade 23 = .ok (.istore_n 2, 1) := by decide +kernel
theorem dX10_readTrade_24 : decode cX10_readTrade 24 = .ok (.iload_n 2, 1) := by decide +kernel
theorem dX10_readTrade_25 : decode cX10_readTrade 25 = .ok (.bipush 8, 2) := by decide +kernel
theorem dX10_readTrade_27 : decode cX10_readTrade 27 = .ok (.if_icmp .ge 45, 3) := by decide +kernel
theorem dX10_readTrade_30 : decode cX10_readTrade 30 = .ok (.aload_n 0, 1) := by decide +kernel
theorem dX10_readTrade_31 : decode cX10_readTrade 31 = .ok (.getfield 17, 3) := by decide +kernel
theorem dX10_readTrade_34 : decode cX10_readTrade 34 = .ok (.bipush 8, 2) := by decide +kernel
theorem dX10_readTrade_36 : decode cX10_readTrade 36 = .ok (.iload_n 1, 1) := by decide +kernel
theorem dX10_readTrade_37 : decode cX10_readTrade 37 = .ok (.imul, 1) := by decide +kernel
theorem dX10_readTrade_38 : decode cX10_readTrade 38 = .ok (.iload_n 2, 1) := by decide +kernel
theorem dX10_readTrade_39 : decode cX10_readTrade 39 = .ok (.iadd, 1) := by decide +kernel
theorem dX10_readTrade_40 : decode cX10_readTrade 40 = .ok (.iconst 0, 1) := by decide +kernel
theorem dX10_readTrade_41 : decode cX10_readTrade 41 = .ok (.iastore, 1) := by decide +kernel
theorem dX10_readTrade_42 : decode cX10_readTrade 42 = .ok (.aload_n 0, 1) := by decide +kernel
theorem dX10_readTrade_43 : decode cX10_readTrade 43 = .ok (.getfield 20, 3) := by decide +kernel
theorem dX10_readTrade_46 : decode cX10_readTrade 46 = .ok (.bipush 8, 2) := by decide +kernel
theorem dX10_readTrade_48 : decode cX10_readTrade 48 = .ok (.iload_n 1, 1) := by decide +kernel
theorem dX10_readTrade_49 : decode cX10_readTrade 49 = .ok (.imul, 1) := by decide +kernel
theorem dX10_readTrade_50 : decode cX10_readTrade 50 = .ok (.iload_n 2, 1) := by decide +kernel
theorem dX10_readTrade_51 : decode cX10_readTrade 51 = .ok (.iadd, 1) := by decide +kernel
theorem dX10_readTrade_52 : decode cX10_readTrade 52 = .ok (.iconst (-1), 1) := by decide +kernel
theorem dX10_readTrade_53 : decode cX10_readTrade 53 = .ok (.iastore, 1) := by decide +kernel
theorem dX10_readTrade_54 : decode cX10_readTrade 54 = .ok (.aload_n 0, 1) := by decide +kernel
theorem dX10_readTrade_55 : decode cX10_readTrade 55 = .ok (.getfield 23, 3) := by decide +kernel
theorem dX10_readTrade_58 : decode cX10_readTrade 58 = .ok (.bipush 8, 2) := by decide +kernel
theorem dX10_readTrade_60 : decode cX10_readTrade 60 = .ok (.iload_n 1, 1) := by decide +kernel
theorem dX10_readTrade_61 : decode cX10_readTrade 61 = .ok (.imul, 1) := by decide +kernel
theorem dX10_readTrade_62 : decode cX10_readTrade 62 = .ok (.iload_n 2, 1) := by decide +kernel
theorem dX10_readTrade_63 : decode cX10_readTrade 63 = .ok (.iadd, 1) := by decide +kernel
theorem dX10_readTrade_64 : decode cX10_readTrade 64 = .ok (.iconst 0, 1) := by decide +kernel
theorem dX10_readTrade_65 : decode cX10_readTrade 65 = .ok (.iastore, 1) := by decide +kernel
theorem dX10_readTrade_66 : decode cX10_readTrade 66 = .ok (.iinc 2 1, 3) := by decide +kernel
theorem dX10_readTrade_69 : decode cX10_readTrade 69 = .ok (.goto (-45), 3) := by decide +kernel
theorem dX10_readTrade_72 : decode cX10_readTrade 72 = .ok (.aload_n 0, 1) := by decide +kernel
theorem dX10_readTrade_73 : decode cX10_readTrade 73 = .ok (.invokevirtual 113, 3) := by decide +kernel
theorem dX10_readTrade_76 : decode cX10_readTrade 76 = .ok (.bipush 110, 2) := by decide +kernel
theorem dX10_readTrade_78 : decode cX10_readTrade 78 = .ok (.if_icmp .eq 12, 3) := by decide +kernel
theorem dX10_readTrade_81 : decode cX10_readTrade 81 = .ok (.aload_n 0, 1) := by decide +kernel
theorem dX10_readTrade_82 : decode cX10_readTrade 82 = .ok (.aload_n 0, 1) := by decide +kernel
theorem dX10_readTrade_83 : decode cX10_readTrade 83 = .ok (.getfield 99, 3) := by decide +kernel
theorem dX10_readTrade_86 : decode cX10_readTrade 86 = .ok (.invokevirtual 109, 3) := by decide +kernel
theorem dX10_readTrade_89 : decode cX10_readTrade 89 = .ok (.ireturn, 1) := by decide +kernel
theorem dX10_readTrade_90 : decode cX10_readTrade 90 = .ok (.aload_n 0, 1) := by decide +kernel
theorem dX10_readTrade_91 : decode cX10_readTrade 91 = .ok (.dup, 1) := by decide +kernel
theorem dX10_readTrade_92 : decode cX10_readTrade 92 = .ok (.getfield 99, 3) := by decide +kernel
theorem dX10_readTrade_95 : decode cX10_readTrade 95 = .ok (.iconst 1, 1) := by decide +kernel
theorem dX10_readTrade_96 : decode cX10_readTrade 96 = .ok (.iadd, 1) := by decide +kernel
theorem dX10_readTrade_97 : decode cX10_readTrade 97 = .ok (.putfield 99, 3) := by decide +kernel
theorem dX10_readTrade_100 : decode cX10_readTrade 100 = .ok (.aload_n 0, 1) := by decide +kernel
theorem dX10_readTrade_101 : decode cX10_readTrade 101 = .ok (.iconst 1, 1) := by decide +kernel
theorem dX10_readTrade_102 : decode cX10_readTrade 102 = .ok (.bipush 8, 2) := by decide +kernel
theorem dX10_readTrade_104 : decode cX10_readTrade 104 = .ok (.iconst (-1), 1) := by decide +kernel
theorem dX10_readTrade_105 : decode cX10_readTrade 105 = .ok (.invokevirtual 127, 3) := by decide +kernel
theorem dX10_readTrade_108 : decode cX10_readTrade 108 = .ok (.ifCond .ne 5, 3) := by decide +kernel
theorem dX10_readTrade_111 : decode cX10_readTrade 111 = .ok (.iconst 0, 1) := by decide +kernel
theorem dX10_readTrade_112 : decode cX10_readTrade 112 = .ok (.ireturn, 1) := by decide +kernel
theorem dX10_readTrade_113 : decode cX10_readTrade 113 = .ok (.aload_n 0, 1) := by decide +kernel
theorem dX10_readTrade_114 : decode cX10_readTrade 114 = .ok (.getfield 13, 3) := by decide +kernel
theorem dX10_readTrade_117 : decode cX10_readTrade 117 = .ok (.iload_n 1, 1) := by decide +kernel
theorem dX10_readTrade_118 : decode cX10_readTrade 118 = .ok (.aload_n 0, 1) := by decide +kernel
theorem dX10_readTrade_119 : decode cX10_readTrade 119 = .ok (.getfield 120, 3) := by decide +kernel
theorem dX10_readTrade_122 : decode cX10_readTrade 122 = .ok (.iastore, 1) := by decide +kernel
theorem dX10_readTrade_123 : decode cX10_readTrade 123 = .ok (.aload_n 0, 1) := by decide +kernel
theorem dX10_readTrade_124 : decode cX10_readTrade 124 = .ok (.invokevirtual 113, 3) := by decide +kernel
theorem dX10_readTrade_127 : decode cX10_readTrade 127 = .ok (.bipush 59, 2) := by decide +kernel
theorem dX10_readTrade_129 : decode cX10_readTrade 129 = .ok (.if_icmp .ne 23, 3) := by decide +kernel
theorem dX10_readTrade_132 : decode cX10_readTrade 132 = .ok (.aload_n 0, 1) := by decide +kernel
theorem dX10_readTrade_133 : decode cX10_readTrade 133 = .ok (.dup, 1) := by decide +kernel
theorem dX10_readTrade_134 : decode cX10_readTrade 134 = .ok (.getfield 99, 3) := by decide +kernel
theorem dX10_readTrade_137 : decode cX10_readTrade 137 = .ok (.iconst 1, 1) := by decide +kernel
theorem dX10_readTrade_138 : decode cX10_readTrade 138 = .ok (.iadd, 1) := by decide +kernel
theorem dX10_readTrade_139 : decode cX10_readTrade 139 = .ok (.putfield 99, 3) := by decide +kernel
theorem dX10_readTrade_142 : decode cX10_readTrade 142 = .ok (.aload_n 0, 1) := by decide +kernel
theorem dX10_readTrade_143 : decode cX10_readTrade 143 = .ok (.iload_n 1, 1) := by decide +kernel
theorem dX10_readTrade_144 : decode cX10_readTrade 144 = .ok (.invokevirtual 142, 3) := by decide +kernel
theorem dX10_readTrade_147 : decode cX10_readTrade 147 = .ok (.ifCond .ne (-24), 3) := by decide +kernel
theorem dX10_readTrade_150 : decode cX10_readTrade 150 = .ok (.iconst 0, 1) := by decide +kernel
theorem dX10_readTrade_151 : decode cX10_readTrade 151 = .ok (.ireturn, 1) := by decide +kernel
theorem dX10_readTrade_152 : decode cX10_readTrade 152 = .ok (.aload_n 0, 1) := by decide +kernel
theorem dX10_readTrade_153 : decode cX10_readTrade 153 = .ok (.getfield 99, 3) := by decide +kernel
theorem dX10_readTrade_156 : decode cX10_readTrade 156 = .ok (.aload_n 0, 1) := by decide +kernel
theorem dX10_readTrade_157 : decode cX10_readTrade 157 = .ok (.getfield 88, 3) := by decide +kernel
theorem dX10_readTrade_160 : decode cX10_readTrade 160 = .ok (.if_icmp .eq 14, 3) := by decide +kernel
theorem dX10_readTrade_163 : decode cX10_readTrade 163 = .ok (.aload_n 0, 1) := by decide +kernel
theorem dX10_readTrade_164 : decode cX10_readTrade 164 = .ok (.aload_n 0, 1) := by decide +kernel
theorem dX10_readTrade_165 : decode cX10_readTrade 165 = .ok (.getfield 99, 3) := by decide +kernel
theorem dX10_readTrade_168 : decode cX10_readTrade 168 = .ok (.invokevirtual 109, 3) := by decide +kernel
theorem dX10_readTrade_171 : decode cX10_readTrade 171 = .ok (.ifCond .eq 7, 3) := by decide +kernel
theorem dX10_readTrade_174 : decode cX10_readTrade 174 = .ok (.iconst 1, 1) := by decide +kernel
theorem dX10_readTrade_175 : decode cX10_readTrade 175 = .ok (.goto 4, 3) := by decide +kernel
theorem dX10_readTrade_178 : decode cX10_readTrade 178 = .ok (.iconst 0, 1) := by decide +kernel
theorem dX10_readTrade_179 : decode cX10_readTrade 179 = .ok (.ireturn, 1) := by decide +kernel
theorem dX10_fault_0 : decode cX10_fault 0 = .ok (.aload_n 0, 1) := by decide +kernel
theorem dX10_fault_1 : decode cX10_fault 1 = .ok (.iconst 0, 1) := by decide +kernel
theorem dX10_fault_2 : decode cX10_fault 2 = .ok (.putfield 84, 3) := by decide +kernel
theorem dX10_fault_5 : decode cX10_fault 5 = .ok (.aload_n 0, 1) := by decide +kernel
theorem dX10_fault_6 : decode cX10_fault 6 = .ok (.invokevirtual 145, 3) := by decide +kernel
theorem dX10_fault_9 : decode cX10_fault 9 = .ok (.istore_n 1, 1) := by decide +kernel
theorem dX10_fault_10 : decode cX10_fault 10 = .ok (.aload_n 0, 1) := by decide +kernel
theorem dX10_fault_11 : decode cX10_fault 11 = .ok (.getfield 106, 3) := by decide +kernel
theorem dX10_fault_14 : decode cX10_fault 14 = .ok (.ireturn, 1) := by decide +kernel
theorem dX10_trade_0 : decode cX10_trade 0 = .ok (.aload_n 0, 1) := by decide +kernel
theorem dX10_trade_1 : decode cX10_trade 1 = .ok (.iconst 0, 1) := by decide +kernel
theorem dX10_trade_2 : decode cX10_trade 2 = .ok (.putfield 84, 3) := by decide +kernel
theorem dX10_trade_5 : decode cX10_trade 5 = .ok (.aload_n 0, 1) := by decide +kernel
theorem dX10_trade_6 : decode cX10_trade 6 = .ok (.getfield 139, 3) := by decide +kernel
theorem dX10_trade_9 : decode cX10_trade 9 = .ok (.bipush 10, 2) := by decide +kernel
theorem dX10_trade_11 : decode cX10_trade 11 = .ok (.if_icmp .eq 10, 3) := by decide +kernel
theorem dX10_trade_14 : decode cX10_trade 14 = .ok (.aload_n 0, 1) := by decide +kernel
theorem dX10_trade_15 : decode cX10_trade 15 = .ok (.invokevirtual 145, 3) := by decide +kernel
theorem dX10_trade_18 : decode cX10_trade 18 = .ok (.ifCond .ne 5, 3) := by decide +kernel
theorem dX10_trade_21 : decode cX10_trade 21 = .ok (.iconst (-1), 1) := by decide +kernel
theorem dX10_trade_22 : decode cX10_trade 22 = .ok (.ireturn, 1) := by decide +kernel
theorem dX10_trade_23 : decode cX10_trade 23 = .ok (.aload_n 0, 1) := by decide +kernel
theorem dX10_trade_24 : decode cX10_trade 24 = .ok (.iconst 0, 1) := by decide +kernel
theorem dX10_trade_25 : decode cX10_trade 25 = .ok (.putfield 88, 3) := by decide +kernel
theorem dX10_trade_28 : decode cX10_trade 28 = .ok (.aload_n 0, 1) := by decide +kernel
theorem dX10_trade_29 : decode cX10_trade 29 = .ok (.getfield 38, 3) := by decide +kernel
theorem dX10_trade_32 : decode cX10_trade 32 = .ok (.aload_n 0, 1) := by decide +kernel
theorem dX10_trade_33 : decode cX10_trade 33 = .ok (.getfield 139, 3) := by decide +kernel
theorem dX10_trade_36 : decode cX10_trade 36 = .ok (.iconst 0, 1) := by decide +kernel
theorem dX10_trade_37 : decode cX10_trade 37 = .ok (.iastore, 1) := by decide +kernel
theorem dX10_trade_38 : decode cX10_trade 38 = .ok (.aload_n 0, 1) := by decide +kernel
theorem dX10_trade_39 : decode cX10_trade 39 = .ok (.getfield 41, 3) := by decide +kernel
theorem dX10_trade_42 : decode cX10_trade 42 = .ok (.aload_n 0, 1) := by decide +kernel
theorem dX10_trade_43 : decode cX10_trade 43 = .ok (.getfield 139, 3) := by decide +kernel
theorem dX10_trade_46 : decode cX10_trade 46 = .ok (.bipush 41, 2) := by decide +kernel
theorem dX10_trade_48 : decode cX10_trade 48 = .ok (.iastore, 1) := by decide +kernel
theorem dX10_trade_49 : decode cX10_trade 49 = .ok (.aload_n 0, 1) := by decide +kernel
theorem dX10_trade_50 : decode cX10_trade 50 = .ok (.getfield 50, 3) := by decide +kernel
theorem dX10_trade_53 : decode cX10_trade 53 = .ok (.aload_n 0, 1) := by decide +kernel
theorem dX10_trade_54 : decode cX10_trade 54 = .ok (.getfield 139, 3) := by decide +kernel
theorem dX10_trade_57 : decode cX10_trade 57 = .ok (.iconst 0, 1) := by decide +kernel
theorem dX10_trade_58 : decode cX10_trade 58 = .ok (.bastore, 1) := by decide +kernel
theorem dX10_trade_59 : decode cX10_trade 59 = .ok (.aload_n 0, 1) := by decide +kernel
theorem dX10_trade_60 : decode cX10_trade 60 = .ok (.getfield 54, 3) := by decide +kernel
theorem dX10_trade_63 : decode cX10_trade 63 = .ok (.aload_n 0, 1) := by decide +kernel
theorem dX10_trade_64 : decode cX10_trade 64 = .ok (.getfield 139, 3) := by decide +kernel
theorem dX10_trade_67 : decode cX10_trade 67 = .ok (.iconst 0, 1) := by decide +kernel
theorem dX10_trade_68 : decode cX10_trade 68 = .ok (.bastore, 1) := by decide +kernel
theorem dX10_trade_69 : decode cX10_trade 69 = .ok (.iconst 0, 1) := by decide +kernel
theorem dX10_trade_70 : decode cX10_trade 70 = .ok (.istore_n 1, 1) := by decide +kernel
theorem dX10_trade_71 : decode cX10_trade 71 = .ok (.iload_n 1, 1) := by decide +kernel
theorem dX10_trade_72 : decode cX10_trade 72 = .ok (.bipush 8, 2) := by decide +kernel
theorem dX10_trade_74 : decode cX10_trade 74 = .ok (.if_icmp .ge 39, 3) := by decide +kernel
theorem dX10_trade_77 : decode cX10_trade 77 = .ok (.aload_n 0, 1) := by decide +kernel
theorem dX10_trade_78 : decode cX10_trade 78 = .ok (.getfield 44, 3) := by decide +kernel
theorem dX10_trade_81 : decode cX10_trade 81 = .ok (.bipush 8, 2) := by decide +kernel
theorem dX10_trade_83 : decode cX10_trade 83 = .ok (.aload_n 0, 1) := by decide +kernel
theorem dX10_trade_84 : decode cX10_trade 84 = .ok (.getfield 139, 3) := by decide +kernel
theorem dX10_trade_87 : decode cX10_trade 87 = .ok (.imul, 1) := by decide +kernel
theorem dX10_trade_88 : decode cX10_trade 88 = .ok (.iload_n 1, 1) := by decide +kernel
theorem dX10_trade_89 : decode cX10_trade 89 = .ok (.iadd, 1) := by decide +kernel
theorem dX10_trade_90 : decode cX10_trade 90 = .ok (.iconst 0, 1) := by decide +kernel
theorem dX10_trade_91 : decode cX10_trade 91 = .ok (.iastore, 1) := by decide +kernel
theorem dX10_trade_92 : decode cX10_trade 92 = .ok (.aload_n 0, 1) := by decide +kernel
theorem dX10_trade_93 : decode cX10_trade 93 = .ok (.getfield 47, 3) := by decide +kernel
theorem dX10_trade_96 : decode cX10_trade 96 = .ok (.bipush 8, 2) := by decide +kernel
theorem dX10_trade_98 : decode cX10_trade 98 = .ok (.aload_n 0, 1) := by decide +kernel
theorem dX10_trade_99 : decode cX10_trade 99 = .ok (.getfield 139, 3) := by decide +kernel
theorem dX10_trade_102 : decode cX10_trade 102 = .ok (.imul, 1) := by decide +kernel
theorem dX10_trade_103 : decode cX10_trade 103 = .ok (.iload_n 1, 1) := by decide +kernel
theorem dX10_trade_104 : decode cX10_trade 104 = .ok (.iadd, 1) := by decide +kernel
theorem dX10_trade_105 : decode cX10_trade 105 = .ok (.iconst 0, 1) := by decide +kernel
theorem dX10_trade_106 : decode cX10_trade 106 = .ok (.iastore, 1) := by decide +kernel
theorem dX10_trade_107 : decode cX10_trade 107 = .ok (.iinc 1 1, 3) := by decide +kernel
theorem dX10_trade_110 : decode cX10_trade 110 = .ok (.goto (-39), 3) := by decide +kernel
theorem dX10_trade_113 : decode cX10_trade 113 = .ok (.aload_n 0, 1) := by decide +kernel
theorem dX10_trade_114 : decode cX10_trade 114 = .ok (.dup, 1) := by decide +kernel
theorem dX10_trade_115 : decode cX10_trade 115 = .ok (.getfield 139, 3) := by decide +kernel
theorem dX10_trade_118 : decode cX10_trade 118 = .ok (.iconst 1, 1) := by decide +kernel
theorem dX10_trade_119 : decode cX10_trade 119 = .ok (.iadd, 1) := by decide +kernel
theorem dX10_trade_120 : decode cX10_trade 120 = .ok (.putfield 139, 3) := by decide +kernel
theorem dX10_trade_123 : decode cX10_trade 123 = .ok (.aload_n 0, 1) := by decide +kernel
theorem dX10_trade_124 : decode cX10_trade 124 = .ok (.getfield 139, 3) := by decide +kernel
theorem dX10_trade_127 : decode cX10_trade 127 = .ok (.iconst 1, 1) := by decide +kernel
theorem dX10_trade_128 : decode cX10_trade 128 = .ok (.isub, 1) := by decide +kernel
theorem dX10_trade_129 : decode cX10_trade 129 = .ok (.ireturn, 1) := by decide +kernel
theorem dX10_isTrade_0 : decode cX10_isTrade 0 = .ok (.iload_n 1, 1) := by decide +kernel
theorem dX10_isTrade_1 : decode cX10_isTrade 1 = .ok (.ifCond .lt 15, 3) := by decide +kernel
theorem dX10_isTrade_4 : decode cX10_isTrade 4 = .ok (.iload_n 1, 1) := by decide +kernel
theorem dX10_isTrade_5 : decode cX10_isTrade 5 = .ok (.aload_n 0, 1) := by decide +kernel
theorem dX10_isTrade_6 : decode cX10_isTrade 6 = .ok (.getfield 139, 3) := by decide +kernel
theorem dX10_isTrade_9 : decode cX10_isTrade 9 = .ok (.if_icmp .ge 7, 3) := by decide +kernel
theorem dX10_isTrade_12 : decode cX10_isTrade 12 = .ok (.iconst 1, 1) := by decide +kernel
theorem dX10_isTrade_13 : decode cX10_isTrade 13 = .ok (.goto 4, 3) := by decide +kernel
theorem dX10_isTrade_16 : decode cX10_isTrade 16 = .ok (.iconst 0, 1) := by decide +kernel
theorem dX10_isTrade_17 : decode cX10_isTrade 17 = .ok (.ireturn, 1) := by decide +kernel
theorem dX10_isHouse_0 : decode cX10_isHouse 0 = .ok (.aload_n 0, 1) := by decide +kernel
theorem dX10_isHouse_1 : decode cX10_isHouse 1 = .ok (.iload_n 1, 1) := by decide +kernel
theorem dX10_isHouse_2 : decode cX10_isHouse 2 = .ok (.invokevirtual 148, 3) := by decide +kernel
theorem dX10_isHouse_5 : decode cX10_isHouse 5 = .ok (.ifCond .eq 23, 3) := by decide +kernel
theorem dX10_isHouse_8 : decode cX10_isHouse 8 = .ok (.iload_n 2, 1) := by decide +kernel
theorem dX10_isHouse_9 : decode cX10_isHouse 9 = .ok (.iconst 0, 1) := by decide +kernel
theorem dX10_isHouse_10 : decode cX10_isHouse 10 = .ok (.aload_n 0, 1) := by decide +kernel
theorem dX10_isHouse_11 : decode cX10_isHouse 11 = .ok (.getfield 13, 3) := by decide +kernel
theorem dX10_isHouse_14 : decode cX10_isHouse 14 = .ok (.iload_n 1, 1) := by decide +kernel
theorem dX10_isHouse_15 : decode cX10_isHouse 15 = .ok (.iaload, 1) := by decide +kernel
theorem dX10_isHouse_16 : decode cX10_isHouse 16 = .ok (.iconst 1, 1) := by decide +kernel
theorem dX10_isHouse_17 : decode cX10_isHouse 17 = .ok (.isub, 1) := by decide +kernel
theorem dX10_isHouse_18 : decode cX10_isHouse 18 = .ok (.invokestatic 123, 3) := by decide +kernel
theorem dX10_isHouse_21 : decode cX10_isHouse 21 = .ok (.ifCond .eq 7, 3) := by decide +kernel
theorem dX10_isHouse_24 : decode cX10_isHouse 24 = .ok (.iconst 1, 1) := by decide +kernel
theorem dX10_isHouse_25 : decode cX10_isHouse 25 = .ok (.goto 4, 3) := by decide +kernel
theorem dX10_isHouse_28 : decode cX10_isHouse 28 = .ok (.iconst 0, 1) := by decide +kernel
theorem dX10_isHouse_29 : decode cX10_isHouse 29 = .ok (.ireturn, 1) := by decide +kernel
theorem dX10_isPrice_0 : decode cX10_isPrice 0 = .ok (.iload_n 0, 1) := by decide +kernel
theorem dX10_isPrice_1 : decode cX10_isPrice 1 = .ok (.iconst 0, 1) := by decide +kernel
theorem dX10_isPrice_2 : decode cX10_isPrice 2 = .ok (.bipush 41, 2) := by decide +kernel
theorem dX10_isPrice_4 : decode cX10_isPrice 4 = .ok (.invokestatic 123, 3) := by decide +kernel
theorem dX10_isPrice_7 : decode cX10_isPrice 7 = .ok (.ireturn, 1) := by decide +kernel
theorem dX10_buys_0 : decode cX10_buys 0 = .ok (.aload_n 0, 1) := by decide +kernel
theorem dX10_buys_1 : decode cX10_buys 1 = .ok (.getfield 20, 3) := by decide +kernel
theorem dX10_buys_4 : decode cX10_buys 4 = .ok (.bipush 8, 2) := by decide +kernel
theorem dX10_buys_6 : decode cX10_buys 6 = .ok (.iload_n 1, 1) := by decide +kernel
theorem dX10_buys_7 : decode cX10_buys 7 = .ok (.imul, 1) := by decide +kernel
theorem dX10_buys_8 : decode cX10_buys 8 = .ok (.iload_n 2, 1) := by decide +kernel
theorem dX10_buys_9 : decode cX10_buys 9 = .ok (.iadd, 1) := by decide +kernel
theorem dX10_buys_10 : decode cX10_buys 10 = .ok (.iaload, 1) := by decide +kernel
theorem dX10_buys_11 : decode cX10_buys 11 = .ok (.iload_n 3, 1) := by decide +kernel
theorem dX10_buys_12 : decode cX10_buys 12 = .ok (.if_icmp .ne 7, 3) := by decide +kernel
theorem dX10_buys_15 : decode cX10_buys 15 = .ok (.iconst 1, 1) := by decide +kernel
theorem dX10_buys_16 : decode cX10_buys 16 = .ok (.goto 4, 3) := by decide +kernel
theorem dX10_buys_19 : decode cX10_buys 19 = .ok (.iconst 0, 1) := by decide +kernel
theorem dX10_buys_20 : decode cX10_buys 20 = .ok (.ireturn, 1) := by decide +kernel
theorem dX10_buyers_0 : decode cX10_buyers 0 = .ok (.iconst 0, 1) := by decide +kernel
theorem dX10_buyers_1 : decode cX10_buyers 1 = .ok (.istore_n 3, 1) := by decide +kernel
theorem dX10_buyers_2 : decode cX10_buyers 2 = .ok (.iconst 0, 1) := by decide +kernel
theorem dX10_buyers_3 : decode cX10_buyers 3 = .ok (.istore 4, 2) := by decide +kernel
theorem dX10_buyers_5 : decode cX10_buyers 5 = .ok (.iload 4, 2) := by decide +kernel
theorem dX10_buyers_7 : decode cX10_buyers 7 = .ok (.aload_n 0, 1) := by decide +kernel
theorem dX10_buyers_8 : decode cX10_buyers 8 = .ok (.getfield 13, 3) := by decide +kernel
theorem dX10_buyers_11 : decode cX10_buyers 11 = .ok (.iload_n 1, 1) := by decide +kernel
theorem dX10_buyers_12 : decode cX10_buyers 12 = .ok (.iaload, 1) := by decide +kernel
theorem dX10_buyers_13 : decode cX10_buyers 13 = .ok (.if_icmp .ge 28, 3) := by decide +kernel
theorem dX10_buyers_16 : decode cX10_buyers 16 = .ok (.iload_n 3, 1) := by decide +kernel
theorem dX10_buyers_17 : decode cX10_buyers 17 = .ok (.aload_n 0, 1) := by decide +kernel
theorem dX10_buyers_18 : decode cX10_buyers 18 = .ok (.iload_n 1, 1) := by decide +kernel
theorem dX10_buyers_19 : decode cX10_buyers 19 = .ok (.iload 4, 2) := by decide +kernel
theorem dX10_buyers_21 : decode cX10_buyers 21 = .ok (.iload_n 2, 1) := by decide +kernel
theorem dX10_buyers_22 : decode cX10_buyers 22 = .ok (.invokevirtual 151, 3) := by decide +kernel
theorem dX10_buyers_25 : decode cX10_buyers 25 = .ok (.ifCond .eq 7, 3) := by decide +kernel
theorem dX10_buyers_28 : decode cX10_buyers 28 = .ok (.iconst 1, 1) := by decide +kernel
theorem dX10_buyers_29 : decode cX10_buyers 29 = .ok (.goto 4, 3) := by decide +kernel
theorem dX10_buyers_32 : decode cX10_buyers 32 = .ok (.iconst 0, 1) := by decide +kernel
theorem dX10_buyers_33 : decode cX10_buyers 33 = .ok (.iadd, 1) := by decide +kernel
theorem dX10_buyers_34 : decode cX10_buyers 34 = .ok (.istore_n 3, 1) := by decide +kernel
theorem dX10_buyers_35 : decode cX10_buyers 35 = .ok (.iinc 4 1, 3) := by decide +kernel
theorem dX10_buyers_38 : decode cX10_buyers 38 = .ok (.goto (-33), 3) := by decide +kernel
theorem dX10_buyers_41 : decode cX10_buyers 41 = .ok (.iload_n 3, 1) := by decide +kernel
theorem dX10_buyers_42 : decode cX10_buyers 42 = .ok (.ireturn, 1) := by decide +kernel
theorem dX10_isShop_0 : decode cX10_isShop 0 = .ok (.aload_n 0, 1) := by decide +kernel
theorem dX10_isShop_1 : decode cX10_isShop 1 = .ok (.iload_n 1, 1) := by decide +kernel
theorem dX10_isShop_2 : decode cX10_isShop 2 = .ok (.iload_n 2, 1) := by decide +kernel
theorem dX10_isShop_3 : decode cX10_isShop 3 = .ok (.invokevirtual 154, 3) := by decide +kernel
theorem dX10_isShop_6 : decode cX10_isShop 6 = .ok (.ifCond .eq 16, 3) := by decide +kernel
theorem dX10_isShop_9 : decode cX10_isShop 9 = .ok (.aload_n 0, 1) := by decide +kernel
theorem dX10_isShop_10 : decode cX10_isShop 10 = .ok (.iload_n 1, 1) := by decide +kernel
theorem dX10_isShop_11 : decode cX10_isShop 11 = .ok (.iload_n 2, 1) := by decide +kernel
theorem dX10_isShop_12 : decode cX10_isShop 12 = .ok (.invokevirtual 158, 3) := by decide +kernel
theorem dX10_isShop_15 : decode cX10_isShop 15 = .ok (.ifCond .ne 7, 3) := by decide +kernel
theorem dX10_isShop_18 : decode cX10_isShop 18 = .ok (.iconst 1, 1) := by decide +kernel
theorem dX10_isShop_19 : decode cX10_isShop 19 = .ok (.goto 4, 3) := by decide +kernel
theorem dX10_isShop_22 : decode cX10_isShop 22 = .ok (.iconst 0, 1) := by decide +kernel
theorem dX10_isShop_23 : decode cX10_isShop 23 = .ok (.ireturn, 1) := by decide +kernel
theorem dX10_isMaker_0 : decode cX10_isMaker 0 = .ok (.aload_n 0, 1) := by decide +kernel
theorem dX10_isMaker_1 : decode cX10_isMaker 1 = .ok (.getfield 20, 3) := by decide +kernel
theorem dX10_isMaker_4 : decode cX10_isMaker 4 = .ok (.bipush 8, 2) := by decide +kernel
theorem dX10_isMaker_6 : decode cX10_isMaker 6 = .ok (.iload_n 1, 1) := by decide +kernel
theorem dX10_isMaker_7 : decode cX10_isMaker 7 = .ok (.imul, 1) := by decide +kernel
theorem dX10_isMaker_8 : decode cX10_isMaker 8 = .ok (.iload_n 2, 1) := by decide +kernel
theorem dX10_isMaker_9 : decode cX10_isMaker 9 = .ok (.iadd, 1) := by decide +kernel
theorem dX10_isMaker_10 : decode cX10_isMaker 10 = .ok (.iaload, 1) := by decide +kernel
theorem dX10_isMaker_11 : decode cX10_isMaker 11 = .ok (.iconst (-1), 1) := by decide +kernel
theorem dX10_isMaker_12 : decode cX10_isMaker 12 = .ok (.if_icmp .ne 7, 3) := by decide +kernel
theorem dX10_isMaker_15 : decode cX10_isMaker 15 = .ok (.iconst 1, 1) := by decide +kernel
theorem dX10_isMaker_16 : decode cX10_isMaker 16 = .ok (.goto 4, 3) := by decide +kernel
theorem dX10_isMaker_19 : decode cX10_isMaker 19 = .ok (.iconst 0, 1) := by decide +kernel
theorem dX10_isMaker_20 : decode cX10_isMaker 20 = .ok (.ireturn, 1) := by decide +kernel
theorem dX10_wanted_0 : decode cX10_wanted 0 = .ok (.iconst 0, 1) := by decide +kernel
theorem dX10_wanted_1 : decode cX10_wanted 1 = .ok (.istore 4, 2) := by decide +kernel
theorem dX10_wanted_3 : decode cX10_wanted 3 = .ok (.iconst 0, 1) := by decide +kernel
theorem dX10_wanted_4 : decode cX10_wanted 4 = .ok (.istore 5, 2) := by decide +kernel
theorem dX10_wanted_6 : decode cX10_wanted 6 = .ok (.iload 5, 2) := by decide +kernel
theorem dX10_wanted_8 : decode cX10_wanted 8 = .ok (.aload_n 0, 1) := by decide +kernel
theorem dX10_wanted_9 : decode cX10_wanted 9 = .ok (.getfield 26, 3) := by decide +kernel
theorem dX10_wanted_12 : decode cX10_wanted 12 = .ok (.iload_n 1, 1) := by decide +kernel
theorem dX10_wanted_13 : decode cX10_wanted 13 = .ok (.iaload, 1) := by decide +kernel
theorem dX10_wanted_14 : decode cX10_wanted 14 = .ok (.if_icmp .ge 62, 3) := by decide +kernel
theorem dX10_wanted_17 : decode cX10_wanted 17 = .ok (.iload 4, 2) := by decide +kernel
theorem dX10_wanted_19 : decode cX10_wanted 19 = .ok (.aload_n 0, 1) := by decide +kernel
theorem dX10_wanted_20 : decode cX10_wanted 20 = .ok (.getfield 29, 3) := by decide +kernel
theorem dX10_wanted_23 : decode cX10_wanted 23 = .ok (.bipush 20, 2) := by decide +kernel
theorem dX10_wanted_25 : decode cX10_wanted 25 = .ok (.iload_n 1, 1) := by decide +kernel
theorem dX10_wanted_26 : decode cX10_wanted 26 = .ok (.imul, 1) := by decide +kernel
theorem dX10_wanted_27 : decode cX10_wanted 27 = .ok (.iload 5, 2) := by decide +kernel
theorem dX10_wanted_29 : decode cX10_wanted 29 = .ok (.iadd, 1) := by decide +kernel
theorem dX10_wanted_30 : decode cX10_wanted 30 = .ok (.iaload, 1) := by decide +kernel
theorem dX10_wanted_31 : decode cX10_wanted 31 = .ok (.iload_n 2, 1) := by decide +kernel
theorem dX10_wanted_32 : decode cX10_wanted 32 = .ok (.if_icmp .ne 34, 3) := by decide +kernel
theorem dX10_wanted_35 : decode cX10_wanted 35 = .ok (.aload_n 0, 1) := by decide +kernel
theorem dX10_wanted_36 : decode cX10_wanted 36 = .ok (.getfield 32, 3) := by decide +kernel
theorem dX10_wanted_39 : decode cX10_wanted 39 = .ok (.bipush 20, 2) := by decide +kernel
theorem dX10_wanted_41 : decode cX10_wanted 41 = .ok (.iload_n 1, 1) := by decide +kernel
theorem dX10_wanted_42 : decode cX10_wanted 42 = .ok (.imul, 1) := by decide +kernel
theorem dX10_wanted_43 : decode cX10_wanted 43 = .ok (.iload 5, 2) := by decide +kernel
theorem dX10_wanted_45 : decode cX10_wanted 45 = .ok (.iadd, 1) := by decide +kernel
theorem dX10_wanted_46 : decode cX10_wanted 46 = .ok (.iaload, 1) := by decide +kernel
theorem dX10_wanted_47 : decode cX10_wanted 47 = .ok (.iload_n 3, 1) := by decide +kernel
theorem dX10_wanted_48 : decode cX10_wanted 48 = .ok (.if_icmp .lt 18, 3) := by decide +kernel
theorem dX10_wanted_51 : decode cX10_wanted 51 = .ok (.aload_n 0, 1) := by decide +kernel
theorem dX10_wanted_52 : decode cX10_wanted 52 = .ok (.getfield 35, 3) := by decide +kernel
theorem dX10_wanted_55 : decode cX10_wanted 55 = .ok (.bipush 20, 2) := by decide +kernel
theorem dX10_wanted_57 : decode cX10_wanted 57 = .ok (.iload_n 1, 1) := by decide +kernel
theorem dX10_wanted_58 : decode cX10_wanted 58 = .ok (.imul, 1) := by decide +kernel
theorem dX10_wanted_59 : decode cX10_wanted 59 = .ok (.iload 5, 2) := by decide +kernel
theorem dX10_wanted_61 : decode cX10_wanted 61 = .ok (.iadd, 1) := by decide +kernel
theorem dX10_wanted_62 : decode cX10_wanted 62 = .ok (.iaload, 1) := by decide +kernel
theorem dX10_wanted_63 : decode cX10_wanted 63 = .ok (.goto 4, 3) := by decide +kernel
theorem dX10_wanted_66 : decode cX10_wanted 66 = .ok (.iconst 0, 1) := by decide +kernel
theorem dX10_wanted_67 : decode cX10_wanted 67 = .ok (.iadd, 1) := by decide +kernel
theorem dX10_wanted_68 : decode cX10_wanted 68 = .ok (.istore 4, 2) := by decide +kernel
theorem dX10_wanted_70 : decode cX10_wanted 70 = .ok (.iinc 5 1, 3) := by decide +kernel
theorem dX10_wanted_73 : decode cX10_wanted 73 = .ok (.goto (-67), 3) := by decide +kernel
theorem dX10_wanted_76 : decode cX10_wanted 76 = .ok (.iload 4, 2) := by decide +kernel
theorem dX10_wanted_78 : decode cX10_wanted 78 = .ok (.ireturn, 1) := by decide +kernel
theorem dX10_costOf_0 : decode cX10_costOf 0 = .ok (.aload_n 0, 1) := by decide +kernel
theorem dX10_costOf_1 : decode cX10_costOf 1 = .ok (.getfield 17, 3) := by decide +kernel
theorem dX10_costOf_4 : decode cX10_costOf 4 = .ok (.bipush 8, 2) := by decide +kernel
theorem dX10_costOf_6 : decode cX10_costOf 6 = .ok (.iload_n 1, 1) := by decide +kernel
theorem dX10_costOf_7 : decode cX10_costOf 7 = .ok (.imul, 1) := by decide +kernel
theorem dX10_costOf_8 : decode cX10_costOf 8 = .ok (.iload_n 2, 1) := by decide +kernel
theorem dX10_costOf_9 : decode cX10_costOf 9 = .ok (.iadd, 1) := by decide +kernel
theorem dX10_costOf_10 : decode cX10_costOf 10 = .ok (.iaload, 1) := by decide +kernel
theorem dX10_costOf_11 : decode cX10_costOf 11 = .ok (.ireturn, 1) := by decide +kernel
theorem dX10_house_0 : decode cX10_house 0 = .ok (.aload_n 0, 1) := by decide +kernel
theorem dX10_house_1 : decode cX10_house 1 = .ok (.aload_n 0, 1) := by decide +kernel
theorem dX10_house_2 : decode cX10_house 2 = .ok (.iload_n 1, 1) := by decide +kernel
theorem dX10_house_3 : decode cX10_house 3 = .ok (.iload_n 2, 1) := by decide +kernel
theorem dX10_house_4 : decode cX10_house 4 = .ok (.invokevirtual 154, 3) := by decide +kernel
theorem dX10_house_7 : decode cX10_house 7 = .ok (.ifCond .eq 16, 3) := by decide +kernel
theorem dX10_house_10 : decode cX10_house 10 = .ok (.iload_n 3, 1) := by decide +kernel
theorem dX10_house_11 : decode cX10_house 11 = .ok (.iconst 0, 1) := by decide +kernel
theorem dX10_house_12 : decode cX10_house 12 = .ok (.iconst 4, 1) := by decide +kernel
theorem dX10_house_13 : decode cX10_house 13 = .ok (.invokestatic 123, 3) := by decide +kernel
theorem dX10_house_16 : decode cX10_house 16 = .ok (.ifCond .eq 7, 3) := by decide +kernel
theorem dX10_house_19 : decode cX10_house 19 = .ok (.iconst 0, 1) := by decide +kernel
theorem dX10_house_20 : decode cX10_house 20 = .ok (.goto 4, 3) := by decide +kernel
theorem dX10_house_23 : decode cX10_house 23 = .ok (.iconst 1, 1) := by decide +kernel
theorem dX10_house_24 : decode cX10_house 24 = .ok (.putfield 84, 3) := by decide +kernel
theorem dX10_house_27 : decode cX10_house 27 = .ok (.aload_n 0, 1) := by decide +kernel
theorem dX10_house_28 : decode cX10_house 28 = .ok (.getfield 84, 3) := by decide +kernel
theorem dX10_house_31 : decode cX10_house 31 = .ok (.ifCond .le 5, 3) := by decide +kernel
theorem dX10_house_34 : decode cX10_house 34 = .ok (.iconst 0, 1) := by decide +kernel
theorem dX10_house_35 : decode cX10_house 35 = .ok (.ireturn, 1) := by decide +kernel
theorem dX10_house_36 : decode cX10_house 36 = .ok (.iload_n 3, 1) := by decide +kernel
theorem dX10_house_37 : decode cX10_house 37 = .ok (.tableswitch 69 0 3 #[31, 38, 50, 62], 31) := by decide +kernel
theorem dX10_house_68 : decode cX10_house 68 = .ok (.aload_n 0, 1) := by decide +kernel
theorem dX10_house_69 : decode cX10_house 69 = .ok (.iload_n 1, 1) := by decide +kernel
theorem dX10_house_70 : decode cX10_house 70 = .ok (.iload_n 2, 1) := by decide +kernel
theorem dX10_house_71 : decode cX10_house 71 = .ok (.invokevirtual 162, 3) := by decide +kernel
theorem dX10_house_74 : decode cX10_house 74 = .ok (.ireturn, 1) := by decide +kernel
theorem dX10_house_75 : decode cX10_house 75 = .ok (.aload_n 0, 1) := by decide +kernel
theorem dX10_house_76 : decode cX10_house 76 = .ok (.getfield 20, 3) := by decide +kernel
theorem dX10_house_79 : decode cX10_house 79 = .ok (.bipush 8, 2) := by decide +kernel
theorem dX10_house_81 : decode cX10_house 81 = .ok (.iload_n 1, 1) := by decide +kernel
theorem dX10_house_82 : decode cX10_house 82 = .ok (.imul, 1) := by decide +kernel
theorem dX10_house_83 : decode cX10_house 83 = .ok (.iload_n 2, 1) := by decide +kernel
theorem dX10_house_84 : decode cX10_house 84 = .ok (.iadd, 1) := by decide +kernel
theorem dX10_house_85 : decode cX10_house 85 = .ok (.iaload, 1) := by decide +kernel
theorem dX10_house_86 : decode cX10_house 86 = .ok (.ireturn, 1) := by decide +kernel
theorem dX10_house_87 : decode cX10_house 87 = .ok (.aload_n 0, 1) := by decide +kernel
theorem dX10_house_88 : decode cX10_house 88 = .ok (.getfield 23, 3) := by decide +kernel
theorem dX10_house_91 : decode cX10_house 91 = .ok (.bipush 8, 2) := by decide +kernel
theorem dX10_house_93 : decode cX10_house 93 = .ok (.iload_n 1, 1) := by decide +kernel
theorem dX10_house_94 : decode cX10_house 94 = .ok (.imul, 1) := by decide +kernel
theorem dX10_house_95 : decode cX10_house 95 = .ok (.iload_n 2, 1) := by decide +kernel
theorem dX10_house_96 : decode cX10_house 96 = .ok (.iadd, 1) := by decide +kernel
theorem dX10_house_97 : decode cX10_house 97 = .ok (.iaload, 1) := by decide +kernel
theorem dX10_house_98 : decode cX10_house 98 = .ok (.ireturn, 1) := by decide +kernel
theorem dX10_house_99 : decode cX10_house 99 = .ok (.aload_n 0, 1) := by decide +kernel
theorem dX10_house_100 : decode cX10_house 100 = .ok (.iload_n 1, 1) := by decide +kernel
theorem dX10_house_101 : decode cX10_house 101 = .ok (.iload_n 2, 1) := by decide +kernel
theorem dX10_house_102 : decode cX10_house 102 = .ok (.invokevirtual 158, 3) := by decide +kernel
theorem dX10_house_105 : decode cX10_house 105 = .ok (.ireturn, 1) := by decide +kernel
theorem dX10_house_106 : decode cX10_house 106 = .ok (.aload_n 0, 1) := by decide +kernel
theorem dX10_house_107 : decode cX10_house 107 = .ok (.iload_n 1, 1) := by decide +kernel
theorem dX10_house_108 : decode cX10_house 108 = .ok (.iload_n 2, 1) := by decide +kernel
theorem dX10_house_109 : decode cX10_house 109 = .ok (.invokevirtual 165, 3) := by decide +kernel
theorem dX10_house_112 : decode cX10_house 112 = .ok (.ifCond .eq 13, 3) := by decide +kernel
theorem dX10_house_115 : decode cX10_house 115 = .ok (.aload_n 0, 1) := by decide +kernel
theorem dX10_house_116 : decode cX10_house 116 = .ok (.iload_n 1, 1) := by decide +kernel
theorem dX10_house_117 : decode cX10_house 117 = .ok (.iload_n 2, 1) := by decide +kernel
theorem dX10_house_118 : decode cX10_house 118 = .ok (.iconst 0, 1) := by decide +kernel
theorem dX10_house_119 : decode cX10_house 119 = .ok (.invokevirtual 168, 3) := by decide +kernel
theorem dX10_house_122 : decode cX10_house 122 = .ok (.goto 4, 3) := by decide +kernel
theorem dX10_house_125 : decode cX10_house 125 = .ok (.iconst 0, 1) := by decide +kernel
theorem dX10_house_126 : decode cX10_house 126 = .ok (.ireturn, 1) := by decide +kernel
theorem dX10_houses_0 : decode cX10_houses 0 = .ok (.aload_n 0, 1) := by decide +kernel
theorem dX10_houses_1 : decode cX10_houses 1 = .ok (.iconst 0, 1) := by decide +kernel
theorem dX10_houses_2 : decode cX10_houses 2 = .ok (.putfield 84, 3) := by decide +kernel
theorem dX10_houses_5 : decode cX10_houses 5 = .ok (.aload_n 0, 1) := by decide +kernel
theorem dX10_houses_6 : decode cX10_houses 6 = .ok (.iload_n 1, 1) := by decide +kernel
theorem dX10_houses_7 : decode cX10_houses 7 = .ok (.invokevirtual 148, 3) := by decide +kernel
theorem dX10_houses_10 : decode cX10_houses 10 = .ok (.ifCond .eq 12, 3) := by decide +kernel
theorem dX10_houses_13 : decode cX10_houses 13 = .ok (.aload_n 0, 1) := by decide +kernel
theorem dX10_houses_14 : decode cX10_houses 14 = .ok (.getfield 13, 3) := by decide +kernel
theorem dX10_houses_17 : decode cX10_houses 17 = .ok (.iload_n 1, 1) := by decide +kernel
theorem dX10_houses_18 : decode cX10_houses 18 = .ok (.iaload, 1) := by decide +kernel
theorem dX10_houses_19 : decode cX10_houses 19 = .ok (.goto 4, 3) := by decide +kernel
theorem dX10_houses_22 : decode cX10_houses 22 = .ok (.iconst (-1), 1) := by decide +kernel
theorem dX10_houses_23 : decode cX10_houses 23 = .ok (.ireturn, 1) := by decide +kernel
theorem dX10_want_0 : decode cX10_want 0 = .ok (.aload_n 0, 1) := by decide +kernel
theorem dX10_want_1 : decode cX10_want 1 = .ok (.iconst 0, 1) := by decide +kernel
theorem dX10_want_2 : decode cX10_want 2 = .ok (.putfield 84, 3) := by decide +kernel
theorem dX10_want_5 : decode cX10_want 5 = .ok (.aload_n 0, 1) := by decide +kernel
theorem dX10_want_6 : decode cX10_want 6 = .ok (.iload_n 1, 1) := by decide +kernel
theorem dX10_want_7 : decode cX10_want 7 = .ok (.iload_n 2, 1) := by decide +kernel
theorem dX10_want_8 : decode cX10_want 8 = .ok (.invokevirtual 165, 3) := by decide +kernel
theorem dX10_want_11 : decode cX10_want 11 = .ok (.ifCond .eq 20, 3) := by decide +kernel
theorem dX10_want_14 : decode cX10_want 14 = .ok (.iload_n 3, 1) := by decide +kernel
theorem dX10_want_15 : decode cX10_want 15 = .ok (.invokestatic 172, 3) := by decide +kernel
theorem dX10_want_18 : decode cX10_want 18 = .ok (.ifCond .eq 13, 3) := by decide +kernel
theorem dX10_want_21 : decode cX10_want 21 = .ok (.aload_n 0, 1) := by decide +kernel
theorem dX10_want_22 : decode cX10_want 22 = .ok (.iload_n 1, 1) := by decide +kernel
theorem dX10_want_23 : decode cX10_want 23 = .ok (.iload_n 2, 1) := by decide +kernel
theorem dX10_want_24 : decode cX10_want 24 = .ok (.iload_n 3, 1) := by decide +kernel
theorem dX10_want_25 : decode cX10_want 25 = .ok (.invokevirtual 168, 3) := by decide +kernel
theorem dX10_want_28 : decode cX10_want 28 = .ok (.goto 4, 3) := by decide +kernel
theorem dX10_want_31 : decode cX10_want 31 = .ok (.iconst (-1), 1) := by decide +kernel
theorem dX10_want_32 : decode cX10_want 32 = .ok (.ireturn, 1) := by decide +kernel
theorem dX10_join_0 : decode cX10_join 0 = .ok (.aload_n 0, 1) := by decide +kernel
theorem dX10_join_1 : decode cX10_join 1 = .ok (.iconst 0, 1) := by decide +kernel
theorem dX10_join_2 : decode cX10_join 2 = .ok (.putfield 84, 3) := by decide +kernel
theorem dX10_join_5 : decode cX10_join 5 = .ok (.aload_n 0, 1) := by decide +kernel
theorem dX10_join_6 : decode cX10_join 6 = .ok (.iload_n 1, 1) := by decide +kernel
theorem dX10_join_7 : decode cX10_join 7 = .ok (.invokevirtual 148, 3) := by decide +kernel
theorem dX10_join_10 : decode cX10_join 10 = .ok (.ifCond .eq 19, 3) := by decide +kernel
theorem dX10_join_13 : decode cX10_join 13 = .ok (.iload_n 2, 1) := by decide +kernel
theorem dX10_join_14 : decode cX10_join 14 = .ok (.ifCond .lt 15, 3) := by decide +kernel
theorem dX10_join_17 : decode cX10_join 17 = .ok (.iload_n 2, 1) := by decide +kernel
theorem dX10_join_18 : decode cX10_join 18 = .ok (.iconst 1, 1) := by decide +kernel
theorem dX10_join_19 : decode cX10_join 19 = .ok (.aload_n 0, 1) := by decide +kernel
theorem dX10_join_20 : decode cX10_join 20 = .ok (.getfield 13, 3) := by decide +kernel
theorem dX10_join_23 : decode cX10_join 23 = .ok (.iload_n 1, 1) := by decide +kernel
theorem dX10_join_24 : decode cX10_join 24 = .ok (.iaload, 1) := by decide +kernel
theorem dX10_join_25 : decode cX10_join 25 = .ok (.ishl, 1) := by decide +kernel
theorem dX10_join_26 : decode cX10_join 26 = .ok (.if_icmp .lt 5, 3) := by decide +kernel
theorem dX10_join_29 : decode cX10_join 29 = .ok (.iconst 0, 1) := by decide +kernel
theorem dX10_join_30 : decode cX10_join 30 = .ok (.ireturn, 1) := by decide +kernel
theorem dX10_join_31 : decode cX10_join 31 = .ok (.aload_n 0, 1) := by decide +kernel
theorem dX10_join_32 : decode cX10_join 32 = .ok (.getfield 38, 3) := by decide +kernel
theorem dX10_join_35 : decode cX10_join 35 = .ok (.iload_n 1, 1) := by decide +kernel
theorem dX10_join_36 : decode cX10_join 36 = .ok (.iload_n 2, 1) := by decide +kernel
theorem dX10_join_37 : decode cX10_join 37 = .ok (.iastore, 1) := by decide +kernel
theorem dX10_join_38 : decode cX10_join 38 = .ok (.iconst 1, 1) := by decide +kernel
theorem dX10_join_39 : decode cX10_join 39 = .ok (.ireturn, 1) := by decide +kernel
theorem dX10_law_0 : decode cX10_law 0 = .ok (.aload_n 0, 1) := by decide +kernel
theorem dX10_law_1 : decode cX10_law 1 = .ok (.iconst 0, 1) := by decide +kernel
theorem dX10_law_2 : decode cX10_law 2 = .ok (.putfield 84, 3) := by decide +kernel
theorem dX10_law_5 : decode cX10_law 5 = .ok (.aload_n 0, 1) := by decide +kernel
theorem dX10_law_6 : decode cX10_law 6 = .ok (.iload_n 1, 1) := by decide +kernel
theorem dX10_law_7 : decode cX10_law 7 = .ok (.invokevirtual 148, 3) := by decide +kernel
theorem dX10_law_10 : decode cX10_law 10 = .ok (.ifCond .eq 10, 3) := by decide +kernel
theorem dX10_law_13 : decode cX10_law 13 = .ok (.iload_n 2, 1) := by decide +kernel
theorem dX10_law_14 : decode cX10_law 14 = .ok (.invokestatic 172, 3) := by decide +kernel
theorem dX10_law_17 : decode cX10_law 17 = .ok (.ifCond .ne 5, 3) := by decide +kernel
theorem dX10_law_20 : decode cX10_law 20 = .ok (.iconst 0, 1) := by decide +kernel
theorem dX10_law_21 : decode cX10_law 21 = .ok (.ireturn, 1) := by decide +kernel
theorem dX10_law_22 : decode cX10_law 22 = .ok (.aload_n 0, 1) := by decide +kernel
theorem dX10_law_23 : decode cX10_law 23 = .ok (.getfield 41, 3) := by decide +kernel
theorem dX10_law_26 : decode cX10_law 26 = .ok (.iload_n 1, 1) := by decide +kernel
theorem dX10_law_27 : decode cX10_law 27 = .ok (.iload_n 2, 1) := by decide +kernel
theorem dX10_law_28 : decode cX10_law 28 = .ok (.iastore, 1) := by decide +kernel
theorem dX10_law_29 : decode cX10_law 29 = .ok (.aload_n 0, 1) := by decide +kernel
theorem dX10_law_30 : decode cX10_law 30 = .ok (.getfield 50, 3) := by decide +kernel
theorem dX10_law_33 : decode cX10_law 33 = .ok (.iload_n 1, 1) := by decide +kernel
theorem dX10_law_34 : decode cX10_law 34 = .ok (.iload_n 3, 1) := by decide +kernel
theorem dX10_law_35 : decode cX10_law 35 = .ok (.bastore, 1) := by decide +kernel
theorem dX10_law_36 : decode cX10_law 36 = .ok (.iconst 1, 1) := by decide +kernel
theorem dX10_law_37 : decode cX10_law 37 = .ok (.ireturn, 1) := by decide +kernel
theorem dX10_halve_0 : decode cX10_halve 0 = .ok (.aload_n 0, 1) := by decide +kernel
theorem dX10_halve_1 : decode cX10_halve 1 = .ok (.iconst 0, 1) := by decide +kernel
theorem dX10_halve_2 : decode cX10_halve 2 = .ok (.putfield 84, 3) := by decide +kernel
theorem dX10_halve_5 : decode cX10_halve 5 = .ok (.aload_n 0, 1) := by decide +kernel
theorem dX10_halve_6 : decode cX10_halve 6 = .ok (.iload_n 1, 1) := by decide +kernel
theorem dX10_halve_7 : decode cX10_halve 7 = .ok (.invokevirtual 148, 3) := by decide +kernel
theorem dX10_halve_10 : decode cX10_halve 10 = .ok (.ifCond .ne 5, 3) := by decide +kernel
theorem dX10_halve_13 : decode cX10_halve 13 = .ok (.iconst 0, 1) := by decide +kernel
theorem dX10_halve_14 : decode cX10_halve 14 = .ok (.ireturn, 1) := by decide +kernel
theorem dX10_halve_15 : decode cX10_halve 15 = .ok (.aload_n 0, 1) := by decide +kernel
theorem dX10_halve_16 : decode cX10_halve 16 = .ok (.getfield 54, 3) := by decide +kernel
theorem dX10_halve_19 : decode cX10_halve 19 = .ok (.iload_n 1, 1) := by decide +kernel
theorem dX10_halve_20 : decode cX10_halve 20 = .ok (.iload_n 2, 1) := by decide +kernel
theorem dX10_halve_21 : decode cX10_halve 21 = .ok (.bastore, 1) := by decide +kernel
theorem dX10_halve_22 : decode cX10_halve 22 = .ok (.iconst 1, 1) := by decide +kernel
theorem dX10_halve_23 : decode cX10_halve 23 = .ok (.ireturn, 1) := by decide +kernel
theorem dX10_terms_0 : decode cX10_terms 0 = .ok (.aload_n 0, 1) := by decide +kernel
theorem dX10_terms_1 : decode cX10_terms 1 = .ok (.iload_n 1, 1) := by decide +kernel
theorem dX10_terms_2 : decode cX10_terms 2 = .ok (.putfield 175, 3) := by decide +kernel
theorem dX10_terms_5 : decode cX10_terms 5 = .ok (.aload_n 0, 1) := by decide +kernel
theorem dX10_terms_6 : decode cX10_terms 6 = .ok (.iload_n 2, 1) := by decide +kernel
theorem dX10_terms_7 : decode cX10_terms 7 = .ok (.putfield 178, 3) := by decide +kernel
theorem dX10_terms_10 : decode cX10_terms 10 = .ok (.aload_n 0, 1) := by decide +kernel
theorem dX10_terms_11 : decode cX10_terms 11 = .ok (.iload_n 3, 1) := by decide +kernel
theorem dX10_terms_12 : decode cX10_terms 12 = .ok (.putfield 181, 3) := by decide +kernel
theorem dX10_terms_15 : decode cX10_terms 15 = .ok (.aload_n 0, 1) := by decide +kernel
theorem dX10_terms_16 : decode cX10_terms 16 = .ok (.iload 4, 2) := by decide +kernel
theorem dX10_terms_18 : decode cX10_terms 18 = .ok (.putfield 184, 3) := by decide +kernel
theorem dX10_terms_21 : decode cX10_terms 21 = .ok (.aload_n 0, 1) := by decide +kernel
theorem dX10_terms_22 : decode cX10_terms 22 = .ok (.iload 5, 2) := by decide +kernel
theorem dX10_terms_24 : decode cX10_terms 24 = .ok (.putfield 188, 3) := by decide +kernel
theorem dX10_terms_27 : decode cX10_terms 27 = .ok (.iconst 0, 1) := by decide +kernel
theorem dX10_terms_28 : decode cX10_terms 28 = .ok (.istore 6, 2) := by decide +kernel
theorem dX10_terms_30 : decode cX10_terms 30 = .ok (.iload 6, 2) := by decide +kernel
theorem dX10_terms_32 : decode cX10_terms 32 = .ok (.sipush 4160, 3) := by decide +kernel
theorem dX10_terms_35 : decode cX10_terms 35 = .ok (.if_icmp .ge 17, 3) := by decide +kernel
theorem dX10_terms_38 : decode cX10_terms 38 = .ok (.aload_n 0, 1) := by decide +kernel
theorem dX10_terms_39 : decode cX10_terms 39 = .ok (.getfield 63, 3) := by decide +kernel
theorem dX10_terms_42 : decode cX10_terms 42 = .ok (.iload 6, 2) := by decide +kernel
theorem dX10_terms_44 : decode cX10_terms 44 = .ok (.iconst 0, 1) := by decide +kernel
theorem dX10_terms_45 : decode cX10_terms 45 = .ok (.bastore, 1) := by decide +kernel
theorem dX10_terms_46 : decode cX10_terms 46 = .ok (.iinc 6 1, 3) := by decide +kernel
theorem dX10_terms_49 : decode cX10_terms 49 = .ok (.goto (-19), 3) := by decide +kernel
theorem dX10_terms_52 : decode cX10_terms 52 = .ok (.return_, 1) := by decide +kernel
theorem dX10_termsOf_0 : decode cX10_termsOf 0 = .ok (.aload_n 0, 1) := by decide +kernel
theorem dX10_termsOf_1 : decode cX10_termsOf 1 = .ok (.iload_n 1, 1) := by decide +kernel
theorem dX10_termsOf_2 : decode cX10_termsOf 2 = .ok (.aload_n 0, 1) := by decide +kernel
theorem dX10_termsOf_3 : decode cX10_termsOf 3 = .ok (.getfield 38, 3) := by decide +kernel
theorem dX10_termsOf_6 : decode cX10_termsOf 6 = .ok (.iload_n 1, 1) := by decide +kernel
theorem dX10_termsOf_7 : decode cX10_termsOf 7 = .ok (.iaload, 1) := by decide +kernel
theorem dX10_termsOf_8 : decode cX10_termsOf 8 = .ok (.aload_n 0, 1) := by decide +kernel
theorem dX10_termsOf_9 : decode cX10_termsOf 9 = .ok (.getfield 41, 3) := by decide +kernel
theorem dX10_termsOf_12 : decode cX10_termsOf 12 = .ok (.iload_n 1, 1) := by decide +kernel
theorem dX10_termsOf_13 : decode cX10_termsOf 13 = .ok (.iaload, 1) := by decide +kernel
theorem dX10_termsOf_14 : decode cX10_termsOf 14 = .ok (.aload_n 0, 1) := by decide +kernel
theorem dX10_termsOf_15 : decode cX10_termsOf 15 = .ok (.getfield 50, 3) := by decide +kernel
theorem dX10_termsOf_18 : decode cX10_termsOf 18 = .ok (.iload_n 1, 1) := by decide +kernel
theorem dX10_termsOf_19 : decode cX10_termsOf 19 = .ok (.baload, 1) := by decide +kernel
theorem dX10_termsOf_20 : decode cX10_termsOf 20 = .ok (.aload_n 0, 1) := by decide +kernel
theorem dX10_termsOf_21 : decode cX10_termsOf 21 = .ok (.getfield 54, 3) := by decide +kernel
theorem dX10_termsOf_24 : decode cX10_termsOf 24 = .ok (.iload_n 1, 1) := by decide +kernel
theorem dX10_termsOf_25 : decode cX10_termsOf 25 = .ok (.baload, 1) := by decide +kernel
theorem dX10_termsOf_26 : decode cX10_termsOf 26 = .ok (.invokevirtual 191, 3) := by decide +kernel
theorem dX10_termsOf_29 : decode cX10_termsOf 29 = .ok (.return_, 1) := by decide +kernel
theorem dX10_isJoined_0 : decode cX10_isJoined 0 = .ok (.aload_n 0, 1) := by decide +kernel
theorem dX10_isJoined_1 : decode cX10_isJoined 1 = .ok (.getfield 178, 3) := by decide +kernel
theorem dX10_isJoined_4 : decode cX10_isJoined 4 = .ok (.iload_n 1, 1) := by decide +kernel
theorem dX10_isJoined_5 : decode cX10_isJoined 5 = .ok (.ishr, 1) := by decide +kernel
theorem dX10_isJoined_6 : decode cX10_isJoined 6 = .ok (.iconst 1, 1) := by decide +kernel
theorem dX10_isJoined_7 : decode cX10_isJoined 7 = .ok (.iand, 1) := by decide +kernel
theorem dX10_isJoined_8 : decode cX10_isJoined 8 = .ok (.iconst 1, 1) := by decide +kernel
theorem dX10_isJoined_9 : decode cX10_isJoined 9 = .ok (.if_icmp .ne 7, 3) := by decide +kernel
theorem dX10_isJoined_12 : decode cX10_isJoined 12 = .ok (.iconst 1, 1) := by decide +kernel
theorem dX10_isJoined_13 : decode cX10_isJoined 13 = .ok (.goto 4, 3) := by decide +kernel
theorem dX10_isJoined_16 : decode cX10_isJoined 16 = .ok (.iconst 0, 1) := by decide +kernel
theorem dX10_isJoined_17 : decode cX10_isJoined 17 = .ok (.ireturn, 1) := by decide +kernel
theorem dX10_askBy_0 : decode cX10_askBy 0 = .ok (.iconst 0, 1) := by decide +kernel
theorem dX10_askBy_1 : decode cX10_askBy 1 = .ok (.istore_n 3, 1) := by decide +kernel
theorem dX10_askBy_2 : decode cX10_askBy 2 = .ok (.iconst 0, 1) := by decide +kernel
theorem dX10_askBy_3 : decode cX10_askBy 3 = .ok (.istore 4, 2) := by decide +kernel
theorem dX10_askBy_5 : decode cX10_askBy 5 = .ok (.iconst 0, 1) := by decide +kernel
theorem dX10_askBy_6 : decode cX10_askBy 6 = .ok (.istore 5, 2) := by decide +kernel
theorem dX10_askBy_8 : decode cX10_askBy 8 = .ok (.iload 5, 2) := by decide +kernel
theorem dX10_askBy_10 : decode cX10_askBy 10 = .ok (.bipush 41, 2) := by decide +kernel
theorem dX10_askBy_12 : decode cX10_askBy 12 = .ok (.if_icmp .gt 68, 3) := by decide +kernel
theorem dX10_askBy_15 : decode cX10_askBy 15 = .ok (.iload 5, 2) := by decide +kernel
theorem dX10_askBy_17 : decode cX10_askBy 17 = .ok (.aload_n 0, 1) := by decide +kernel
theorem dX10_askBy_18 : decode cX10_askBy 18 = .ok (.getfield 181, 3) := by decide +kernel
theorem dX10_askBy_21 : decode cX10_askBy 21 = .ok (.if_icmp .le 13, 3) := by decide +kernel
theorem dX10_askBy_24 : decode cX10_askBy 24 = .ok (.iload 5, 2) := by decide +kernel
theorem dX10_askBy_26 : decode cX10_askBy 26 = .ok (.bipush 41, 2) := by decide +kernel
theorem dX10_askBy_28 : decode cX10_askBy 28 = .ok (.if_icmp .eq 6, 3) := by decide +kernel
theorem dX10_askBy_31 : decode cX10_askBy 31 = .ok (.goto 43, 3) := by decide +kernel
theorem dX10_askBy_34 : decode cX10_askBy 34 = .ok (.iload 5, 2) := by decide +kernel
theorem dX10_askBy_36 : decode cX10_askBy 36 = .ok (.iload_n 2, 1) := by decide +kernel
theorem dX10_askBy_37 : decode cX10_askBy 37 = .ok (.isub, 1) := by decide +kernel
theorem dX10_askBy_38 : decode cX10_askBy 38 = .ok (.aload_n 0, 1) := by decide +kernel
theorem dX10_askBy_39 : decode cX10_askBy 39 = .ok (.aload_n 0, 1) := by decide +kernel
theorem dX10_askBy_40 : decode cX10_askBy 40 = .ok (.getfield 175, 3) := by decide +kernel
theorem dX10_askBy_43 : decode cX10_askBy 43 = .ok (.iload_n 1, 1) := by decide +kernel
theorem dX10_askBy_44 : decode cX10_askBy 44 = .ok (.iload 5, 2) := by decide +kernel
theorem dX10_askBy_46 : decode cX10_askBy 46 = .ok (.invokevirtual 168, 3) := by decide +kernel
theorem dX10_askBy_49 : decode cX10_askBy 49 = .ok (.imul, 1) := by decide +kernel
theorem dX10_askBy_50 : decode cX10_askBy 50 = .ok (.istore 6, 2) := by decide +kernel
theorem dX10_askBy_52 : decode cX10_askBy 52 = .ok (.iload 5, 2) := by decide +kernel
theorem dX10_askBy_54 : decode cX10_askBy 54 = .ok (.ifCond .le 13, 3) := by decide +kernel
theorem dX10_askBy_57 : decode cX10_askBy 57 = .ok (.iload 6, 2) := by decide +kernel
theorem dX10_askBy_59 : decode cX10_askBy 59 = .ok (.iload 4, 2) := by decide +kernel
theorem dX10_askBy_61 : decode cX10_askBy 61 = .ok (.if_icmp .gt 6, 3) := by decide +kernel
theorem dX10_askBy_64 : decode cX10_askBy 64 = .ok (.goto 10, 3) := by decide +kernel
theorem dX10_askBy_67 : decode cX10_askBy 67 = .ok (.iload 6, 2) := by decide +kernel
theorem dX10_askBy_69 : decode cX10_askBy 69 = .ok (.istore 4, 2) := by decide +kernel
theorem dX10_askBy_71 : decode cX10_askBy 71 = .ok (.iload 5, 2) := by decide +kernel
theorem dX10_askBy_73 : decode cX10_askBy 73 = .ok (.istore_n 3, 1) := by decide +kernel
theorem dX10_askBy_74 : decode cX10_askBy 74 = .ok (.iinc 5 1, 3) := by decide +kernel
theorem dX10_askBy_77 : decode cX10_askBy 77 = .ok (.goto (-69), 3) := by decide +kernel
theorem dX10_askBy_80 : decode cX10_askBy 80 = .ok (.iload_n 3, 1) := by decide +kernel
theorem dX10_askBy_81 : decode cX10_askBy 81 = .ok (.ireturn, 1) := by decide +kernel
theorem dX10_priceTo_0 : decode cX10_priceTo 0 = .ok (.aload_n 0, 1) := by decide +kernel
theorem dX10_priceTo_1 : decode cX10_priceTo 1 = .ok (.getfield 188, 3) := by decide +kernel
theorem dX10_priceTo_4 : decode cX10_priceTo 4 = .ok (.ifCond .eq 12, 3) := by decide +kernel
theorem dX10_priceTo_7 : decode cX10_priceTo 7 = .ok (.aload_n 0, 1) := by decide +kernel
theorem dX10_priceTo_8 : decode cX10_priceTo 8 = .ok (.iload_n 2, 1) := by decide +kernel
theorem dX10_priceTo_9 : decode cX10_priceTo 9 = .ok (.iload_n 3, 1) := by decide +kernel
theorem dX10_priceTo_10 : decode cX10_priceTo 10 = .ok (.invokevirtual 195, 3) := by decide +kernel
theorem dX10_priceTo_13 : decode cX10_priceTo 13 = .ok (.goto 25, 3) := by decide +kernel
theorem dX10_priceTo_16 : decode cX10_priceTo 16 = .ok (.aload_n 0, 1) := by decide +kernel
theorem dX10_priceTo_17 : decode cX10_priceTo 17 = .ok (.getfield 184, 3) := by decide +kernel
theorem dX10_priceTo_20 : decode cX10_priceTo 20 = .ok (.ifCond .eq 12, 3) := by decide +kernel
theorem dX10_priceTo_23 : decode cX10_priceTo 23 = .ok (.aload_n 0, 1) := by decide +kernel
theorem dX10_priceTo_24 : decode cX10_priceTo 24 = .ok (.iload_n 1, 1) := by decide +kernel
theorem dX10_priceTo_25 : decode cX10_priceTo 25 = .ok (.iload_n 3, 1) := by decide +kernel
theorem dX10_priceTo_26 : decode cX10_priceTo 26 = .ok (.invokevirtual 198, 3) := by decide +kernel
theorem dX10_priceTo_29 : decode cX10_priceTo 29 = .ok (.goto 9, 3) := by decide +kernel
theorem dX10_priceTo_32 : decode cX10_priceTo 32 = .ok (.aload_n 0, 1) := by decide +kernel
theorem dX10_priceTo_33 : decode cX10_priceTo 33 = .ok (.iload_n 2, 1) := by decide +kernel
theorem dX10_priceTo_34 : decode cX10_priceTo 34 = .ok (.iload_n 3, 1) := by decide +kernel
theorem dX10_priceTo_35 : decode cX10_priceTo 35 = .ok (.invokevirtual 201, 3) := by decide +kernel
theorem dX10_priceTo_38 : decode cX10_priceTo 38 = .ok (.ireturn, 1) := by decide +kernel
theorem dX10_bestPrice_0 : decode cX10_bestPrice 0 = .ok (.iconst 0, 1) := by decide +kernel
theorem dX10_bestPrice_1 : decode cX10_bestPrice 1 = .ok (.istore_n 3, 1) := by decide +kernel
theorem dX10_bestPrice_2 : decode cX10_bestPrice 2 = .ok (.iconst 0, 1) := by decide +kernel
theorem dX10_bestPrice_3 : decode cX10_bestPrice 3 = .ok (.istore 4, 2) := by decide +kernel
theorem dX10_bestPrice_5 : decode cX10_bestPrice 5 = .ok (.iconst 0, 1) := by decide +kernel
theorem dX10_bestPrice_6 : decode cX10_bestPrice 6 = .ok (.istore 5, 2) := by decide +kernel
theorem dX10_bestPrice_8 : decode cX10_bestPrice 8 = .ok (.iload 5, 2) := by decide +kernel
theorem dX10_bestPrice_10 : decode cX10_bestPrice 10 = .ok (.bipush 41, 2) := by decide +kernel
theorem dX10_bestPrice_12 : decode cX10_bestPrice 12 = .ok (.if_icmp .gt 55, 3) := by decide +kernel
theorem dX10_bestPrice_15 : decode cX10_bestPrice 15 = .ok (.iload 5, 2) := by decide +kernel
theorem dX10_bestPrice_17 : decode cX10_bestPrice 17 = .ok (.iload_n 2, 1) := by decide +kernel
theorem dX10_bestPrice_18 : decode cX10_bestPrice 18 = .ok (.isub, 1) := by decide +kernel
theorem dX10_bestPrice_19 : decode cX10_bestPrice 19 = .ok (.aload_n 0, 1) := by decide +kernel
theorem dX10_bestPrice_20 : decode cX10_bestPrice 20 = .ok (.iload_n 1, 1) := by decide +kernel
theorem dX10_bestPrice_21 : decode cX10_bestPrice 21 = .ok (.iload 5, 2) := by decide +kernel
theorem dX10_bestPrice_23 : decode cX10_bestPrice 23 = .ok (.aload_n 0, 1) := by decide +kernel
theorem dX10_bestPrice_24 : decode cX10_bestPrice 24 = .ok (.aload_n 0, 1) := by decide +kernel
theorem dX10_bestPrice_25 : decode cX10_bestPrice 25 = .ok (.getfield 175, 3) := by decide +kernel
theorem dX10_bestPrice_28 : decode cX10_bestPrice 28 = .ok (.iload_n 1, 1) := by decide +kernel
theorem dX10_bestPrice_29 : decode cX10_bestPrice 29 = .ok (.invokevirtual 162, 3) := by decide +kernel
theorem dX10_bestPrice_32 : decode cX10_bestPrice 32 = .ok (.iadd, 1) := by decide +kernel
theorem dX10_bestPrice_33 : decode cX10_bestPrice 33 = .ok (.invokevirtual 204, 3) := by decide +kernel
theorem dX10_bestPrice_36 : decode cX10_bestPrice 36 = .ok (.imul, 1) := by decide +kernel
theorem dX10_bestPrice_37 : decode cX10_bestPrice 37 = .ok (.istore 6, 2) := by decide +kernel
theorem dX10_bestPrice_39 : decode cX10_bestPrice 39 = .ok (.iload 5, 2) := by decide +kernel
theorem dX10_bestPrice_41 : decode cX10_bestPrice 41 = .ok (.ifCond .le 13, 3) := by decide +kernel
theorem dX10_bestPrice_44 : decode cX10_bestPrice 44 = .ok (.iload 6, 2) := by decide +kernel
theorem dX10_bestPrice_46 : decode cX10_bestPrice 46 = .ok (.iload 4, 2) := by decide +kernel
theorem dX10_bestPrice_48 : decode cX10_bestPrice 48 = .ok (.if_icmp .gt 6, 3) := by decide +kernel
theorem dX10_bestPrice_51 : decode cX10_bestPrice 51 = .ok (.goto 10, 3) := by decide +kernel
theorem dX10_bestPrice_54 : decode cX10_bestPrice 54 = .ok (.iload 6, 2) := by decide +kernel
theorem dX10_bestPrice_56 : decode cX10_bestPrice 56 = .ok (.istore 4, 2) := by decide +kernel
theorem dX10_bestPrice_58 : decode cX10_bestPrice 58 = .ok (.iload 5, 2) := by decide +kernel
theorem dX10_bestPrice_60 : decode cX10_bestPrice 60 = .ok (.istore_n 3, 1) := by decide +kernel
theorem dX10_bestPrice_61 : decode cX10_bestPrice 61 = .ok (.iinc 5 1, 3) := by decide +kernel
theorem dX10_bestPrice_64 : decode cX10_bestPrice 64 = .ok (.goto (-56), 3) := by decide +kernel
theorem dX10_bestPrice_67 : decode cX10_bestPrice 67 = .ok (.iload_n 3, 1) := by decide +kernel
theorem dX10_bestPrice_68 : decode cX10_bestPrice 68 = .ok (.ireturn, 1) := by decide +kernel
theorem dX10_alikePrice_0 : decode cX10_alikePrice 0 = .ok (.iconst 0, 1) := by decide +kernel
theorem dX10_alikePrice_1 : decode cX10_alikePrice 1 = .ok (.istore_n 3, 1) := by decide +kernel
theorem dX10_alikePrice_2 : decode cX10_alikePrice 2 = .ok (.iconst 0, 1) := by decide +kernel
theorem dX10_alikePrice_3 : decode cX10_alikePrice 3 = .ok (.istore 4, 2) := by decide +kernel
theorem dX10_alikePrice_5 : decode cX10_alikePrice 5 = .ok (.iconst 0, 1) := by decide +kernel
theorem dX10_alikePrice_6 : decode cX10_alikePrice 6 = .ok (.istore 5, 2) := by decide +kernel
theorem dX10_alikePrice_8 : decode cX10_alikePrice 8 = .ok (.iload 5, 2) := by decide +kernel
theorem dX10_alikePrice_10 : decode cX10_alikePrice 10 = .ok (.bipush 41, 2) := by decide +kernel
theorem dX10_alikePrice_12 : decode cX10_alikePrice 12 = .ok (.if_icmp .gt 109, 3) := by decide +kernel
theorem dX10_alikePrice_15 : decode cX10_alikePrice 15 = .ok (.iconst 0, 1) := by decide +kernel
theorem dX10_alikePrice_16 : decode cX10_alikePrice 16 = .ok (.istore 6, 2) := by decide +kernel
theorem dX10_alikePrice_18 : decode cX10_alikePrice 18 = .ok (.iconst 0, 1) := by decide +kernel
theorem dX10_alikePrice_19 : decode cX10_alikePrice 19 = .ok (.istore 7, 2) := by decide +kernel
theorem dX10_alikePrice_21 : decode cX10_alikePrice 21 = .ok (.iload 7, 2) := by decide +kernel
theorem dX10_alikePrice_23 : decode cX10_alikePrice 23 = .ok (.aload_n 0, 1) := by decide +kernel
theorem dX10_alikePrice_24 : decode cX10_alikePrice 24 = .ok (.getfield 13, 3) := by decide +kernel
theorem dX10_alikePrice_27 : decode cX10_alikePrice 27 = .ok (.aload_n 0, 1) := by decide +kernel
theorem dX10_alikePrice_28 : decode cX10_alikePrice 28 = .ok (.getfield 175, 3) := by decide +kernel
theorem dX10_alikePrice_31 : decode cX10_alikePrice 31 = .ok (.iaload, 1) := by decide +kernel
theorem dX10_alikePrice_32 : decode cX10_alikePrice 32 = .ok (.if_icmp .ge 61, 3) := by decide +kernel
theorem dX10_alikePrice_35 : decode cX10_alikePrice 35 = .ok (.aload_n 0, 1) := by decide +kernel
theorem dX10_alikePrice_36 : decode cX10_alikePrice 36 = .ok (.aload_n 0, 1) := by decide +kernel
theorem dX10_alikePrice_37 : decode cX10_alikePrice 37 = .ok (.getfield 175, 3) := by decide +kernel
theorem dX10_alikePrice_40 : decode cX10_alikePrice 40 = .ok (.iload 7, 2) := by decide +kernel
theorem dX10_alikePrice_42 : decode cX10_alikePrice 42 = .ok (.iload_n 1, 1) := by decide +kernel
theorem dX10_alikePrice_43 : decode cX10_alikePrice 43 = .ok (.invokevirtual 151, 3) := by decide +kernel
theorem dX10_alikePrice_46 : decode cX10_alikePrice 46 = .ok (.ifCond .eq 41, 3) := by decide +kernel
theorem dX10_alikePrice_49 : decode cX10_alikePrice 49 = .ok (.aload_n 0, 1) := by decide +kernel
theorem dX10_alikePrice_50 : decode cX10_alikePrice 50 = .ok (.iload 7, 2) := by decide +kernel
theorem dX10_alikePrice_52 : decode cX10_alikePrice 52 = .ok (.invokevirtual 207, 3) := by decide +kernel
theorem dX10_alikePrice_55 : decode cX10_alikePrice 55 = .ok (.ifCond .ne 32, 3) := by decide +kernel
theorem dX10_alikePrice_58 : decode cX10_alikePrice 58 = .ok (.iload 6, 2) := by decide +kernel
theorem dX10_alikePrice_60 : decode cX10_alikePrice 60 = .ok (.iload 5, 2) := by decide +kernel
theorem dX10_alikePrice_62 : decode cX10_alikePrice 62 = .ok (.iload_n 2, 1) := by decide +kernel
theorem dX10_alikePrice_63 : decode cX10_alikePrice 63 = .ok (.isub, 1) := by decide +kernel
theorem dX10_alikePrice_64 : decode cX10_alikePrice 64 = .ok (.aload_n 0, 1) := by decide +kernel
theorem dX10_alikePrice_65 : decode cX10_alikePrice 65 = .ok (.iload 7, 2) := by decide +kernel
theorem dX10_alikePrice_67 : decode cX10_alikePrice 67 = .ok (.iload 5, 2) := by decide +kernel
theorem dX10_alikePrice_69 : decode cX10_alikePrice 69 = .ok (.aload_n 0, 1) := by decide +kernel
theorem dX10_alikePrice_70 : decode cX10_alikePrice 70 = .ok (.aload_n 0, 1) := by decide +kernel
theorem dX10_alikePrice_71 : decode cX10_alikePrice 71 = .ok (.getfield 175, 3) := by decide +kernel
theorem dX10_alikePrice_74 : decode cX10_alikePrice 74 = .ok (.iload 7, 2) := by decide +kernel
theorem dX10_alikePrice_76 : decode cX10_alikePrice 76 = .ok (.invokevirtual 162, 3) := by decide +kernel
theorem dX10_alikePrice_79 : decode cX10_alikePrice 79 = .ok (.iadd, 1) := by decide +kernel
theorem dX10_alikePrice_80 : decode cX10_alikePrice 80 = .ok (.invokevirtual 204, 3) := by decide +kernel
theorem dX10_alikePrice_83 : decode cX10_alikePrice 83 = .ok (.imul, 1) := by decide +kernel
theorem dX10_alikePrice_84 : decode cX10_alikePrice 84 = .ok (.iadd, 1) := by decide +kernel
theorem dX10_alikePrice_85 : decode cX10_alikePrice 85 = .ok (.istore 6, 2) := by decide +kernel
theorem dX10_alikePrice_87 : decode cX10_alikePrice 87 = .ok (.iinc 7 1, 3) := by decide +kernel
theorem dX10_alikePrice_90 : decode cX10_alikePrice 90 = .ok (.goto (-69), 3) := by decide +kernel
theorem dX10_alikePrice_93 : decode cX10_alikePrice 93 = .ok (.iload 5, 2) := by decide +kernel
theorem dX10_alikePrice_95 : decode cX10_alikePrice 95 = .ok (.ifCond .le 13, 3) := by decide +kernel
theorem dX10_alikePrice_98 : decode cX10_alikePrice 98 = .ok (.iload 6, 2) := by decide +kernel
theorem dX10_alikePrice_100 : decode cX10_alikePrice 100 = .ok (.iload 4, 2) := by decide +kernel
theorem dX10_alikePrice_102 : decode cX10_alikePrice 102 = .ok (.if_icmp .gt 6, 3) := by decide +kernel
theorem dX10_alikePrice_105 : decode cX10_alikePrice 105 = .ok (.goto 10, 3) := by decide +kernel
theorem dX10_alikePrice_108 : decode cX10_alikePrice 108 = .ok (.iload 6, 2) := by decide +kernel
theorem dX10_alikePrice_110 : decode cX10_alikePrice 110 = .ok (.istore 4, 2) := by decide +kernel
theorem dX10_alikePrice_112 : decode cX10_alikePrice 112 = .ok (.iload 5, 2) := by decide +kernel
theorem dX10_alikePrice_114 : decode cX10_alikePrice 114 = .ok (.istore_n 3, 1) := by decide +kernel
theorem dX10_alikePrice_115 : decode cX10_alikePrice 115 = .ok (.iinc 5 1, 3) := by decide +kernel
theorem dX10_alikePrice_118 : decode cX10_alikePrice 118 = .ok (.goto (-110), 3) := by decide +kernel
theorem dX10_alikePrice_121 : decode cX10_alikePrice 121 = .ok (.iload_n 3, 1) := by decide +kernel
theorem dX10_alikePrice_122 : decode cX10_alikePrice 122 = .ok (.ireturn, 1) := by decide +kernel
theorem dX10_halvedPrice_0 : decode cX10_halvedPrice 0 = .ok (.iconst (-1), 1) := by decide +kernel
theorem dX10_halvedPrice_1 : decode cX10_halvedPrice 1 = .ok (.istore_n 3, 1) := by decide +kernel
theorem dX10_halvedPrice_2 : decode cX10_halvedPrice 2 = .ok (.lconst 0, 1) := by decide +kernel
theorem dX10_halvedPrice_3 : decode cX10_halvedPrice 3 = .ok (.lstore 4, 2) := by decide +kernel
theorem dX10_halvedPrice_5 : decode cX10_halvedPrice 5 = .ok (.iconst 0, 1) := by decide +kernel
theorem dX10_halvedPrice_6 : decode cX10_halvedPrice 6 = .ok (.istore 6, 2) := by decide +kernel
theorem dX10_halvedPrice_8 : decode cX10_halvedPrice 8 = .ok (.iload 6, 2) := by decide +kernel
theorem dX10_halvedPrice_10 : decode cX10_halvedPrice 10 = .ok (.bipush 41, 2) := by decide +kernel
theorem dX10_halvedPrice_12 : decode cX10_halvedPrice 12 = .ok (.if_icmp .gt 92, 3) := by decide +kernel
theorem dX10_halvedPrice_15 : decode cX10_halvedPrice 15 = .ok (.iload 6, 2) := by decide +kernel
theorem dX10_halvedPrice_17 : decode cX10_halvedPrice 17 = .ok (.aload_n 0, 1) := by decide +kernel
theorem dX10_halvedPrice_18 : decode cX10_halvedPrice 18 = .ok (.aload_n 0, 1) := by decide +kernel
theorem dX10_halvedPrice_19 : decode cX10_halvedPrice 19 = .ok (.getfield 175, 3) := by decide +kernel
theorem dX10_halvedPrice_22 : decode cX10_halvedPrice 22 = .ok (.iload_n 1, 1) := by decide +kernel
theorem dX10_halvedPrice_23 : decode cX10_halvedPrice 23 = .ok (.invokevirtual 162, 3) := by decide +kernel
theorem dX10_halvedPrice_26 : decode cX10_halvedPrice 26 = .ok (.iadd, 1) := by decide +kernel
theorem dX10_halvedPrice_27 : decode cX10_halvedPrice 27 = .ok (.istore 7, 2) := by decide +kernel
theorem dX10_halvedPrice_29 : decode cX10_halvedPrice 29 = .ok (.iload 6, 2) := by decide +kernel
theorem dX10_halvedPrice_31 : decode cX10_halvedPrice 31 = .ok (.iload_n 2, 1) := by decide +kernel
theorem dX10_halvedPrice_32 : decode cX10_halvedPrice 32 = .ok (.isub, 1) := by decide +kernel
theorem dX10_halvedPrice_33 : decode cX10_halvedPrice 33 = .ok (.i2l, 1) := by decide +kernel
theorem dX10_halvedPrice_34 : decode cX10_halvedPrice 34 = .ok (.aload_n 0, 1) := by decide +kernel
theorem dX10_halvedPrice_35 : decode cX10_halvedPrice 35 = .ok (.iload_n 1, 1) := by decide +kernel
theorem dX10_halvedPrice_36 : decode cX10_halvedPrice 36 = .ok (.iload 7, 2) := by decide +kernel
theorem dX10_halvedPrice_38 : decode cX10_halvedPrice 38 = .ok (.invokevirtual 204, 3) := by decide +kernel
theorem dX10_halvedPrice_41 : decode cX10_halvedPrice 41 = .ok (.i2l, 1) := by decide +kernel
theorem dX10_halvedPrice_42 : decode cX10_halvedPrice 42 = .ok (.lmul, 1) := by decide +kernel
theorem dX10_halvedPrice_43 : decode cX10_halvedPrice 43 = .ok (.lstore 8, 2) := by decide +kernel
theorem dX10_halvedPrice_45 : decode cX10_halvedPrice 45 = .ok (.aload_n 0, 1) := by decide +kernel
theorem dX10_halvedPrice_46 : decode cX10_halvedPrice 46 = .ok (.iload_n 1, 1) := by decide +kernel
theorem dX10_halvedPrice_47 : decode cX10_halvedPrice 47 = .ok (.iload 7, 2) := by decide +kernel
theorem dX10_halvedPrice_49 : decode cX10_halvedPrice 49 = .ok (.invokevirtual 210, 3) := by decide +kernel
theorem dX10_halvedPrice_52 : decode cX10_halvedPrice 52 = .ok (.i2l, 1) := by decide +kernel
theorem dX10_halvedPrice_53 : decode cX10_halvedPrice 53 = .ok (.lstore 10, 2) := by decide +kernel
theorem dX10_halvedPrice_55 : decode cX10_halvedPrice 55 = .ok (.lload 8, 2) := by decide +kernel
theorem dX10_halvedPrice_57 : decode cX10_halvedPrice 57 = .ok (.lconst 0, 1) := by decide +kernel
theorem dX10_halvedPrice_58 : decode cX10_halvedPrice 58 = .ok (.lcmp, 1) := by decide +kernel
theorem dX10_halvedPrice_59 : decode cX10_halvedPrice 59 = .ok (.ifCond .lt 39, 3) := by decide +kernel
theorem dX10_halvedPrice_62 : decode cX10_halvedPrice 62 = .ok (.lload 10, 2) := by decide +kernel
theorem dX10_halvedPrice_64 : decode cX10_halvedPrice 64 = .ok (.lconst 0, 1) := by decide +kernel
theorem dX10_halvedPrice_65 : decode cX10_halvedPrice 65 = .ok (.lcmp, 1) := by decide +kernel
theorem dX10_halvedPrice_66 : decode cX10_halvedPrice 66 = .ok (.ifCond .lt 32, 3) := by decide +kernel
theorem dX10_halvedPrice_69 : decode cX10_halvedPrice 69 = .ok (.iload_n 3, 1) := by decide +kernel
theorem dX10_halvedPrice_70 : decode cX10_halvedPrice 70 = .ok (.iconst (-1), 1) := by decide +kernel
theorem dX10_halvedPrice_71 : decode cX10_halvedPrice 71 = .ok (.if_icmp .eq 17, 3) := by decide +kernel
theorem dX10_halvedPrice_74 : decode cX10_halvedPrice 74 = .ok (.lload 8, 2) := by decide +kernel
theorem dX10_halvedPrice_76 : decode cX10_halvedPrice 76 = .ok (.lload 10, 2) := by decide +kernel
theorem dX10_halvedPrice_78 : decode cX10_halvedPrice 78 = .ok (.lmul, 1) := by decide +kernel
theorem dX10_halvedPrice_79 : decode cX10_halvedPrice 79 = .ok (.lload 4, 2) := by decide +kernel
theorem dX10_halvedPrice_81 : decode cX10_halvedPrice 81 = .ok (.lcmp, 1) := by decide +kernel
theorem dX10_halvedPrice_82 : decode cX10_halvedPrice 82 = .ok (.ifCond .gt 6, 3) := by decide +kernel
theorem dX10_halvedPrice_85 : decode cX10_halvedPrice 85 = .ok (.goto 13, 3) := by decide +kernel
theorem dX10_halvedPrice_88 : decode cX10_halvedPrice 88 = .ok (.lload 8, 2) := by decide +kernel
theorem dX10_halvedPrice_90 : decode cX10_halvedPrice 90 = .ok (.lload 10, 2) := by decide +kernel
theorem dX10_halvedPrice_92 : decode cX10_halvedPrice 92 = .ok (.lmul, 1) := by decide +kernel
theorem dX10_halvedPrice_93 : decode cX10_halvedPrice 93 = .ok (.lstore 4, 2) := by decide +kernel
theorem dX10_halvedPrice_95 : decode cX10_halvedPrice 95 = .ok (.iload 6, 2) := by decide +kernel
theorem dX10_halvedPrice_97 : decode cX10_halvedPrice 97 = .ok (.istore_n 3, 1) := by decide +kernel
theorem dX10_halvedPrice_98 : decode cX10_halvedPrice 98 = .ok (.iinc 6 1, 3) := by decide +kernel
theorem dX10_halvedPrice_101 : decode cX10_halvedPrice 101 = .ok (.goto (-93), 3) := by decide +kernel
theorem dX10_halvedPrice_104 : decode cX10_halvedPrice 104 = .ok (.iload_n 3, 1) := by decide +kernel
theorem dX10_halvedPrice_105 : decode cX10_halvedPrice 105 = .ok (.iconst (-1), 1) := by decide +kernel
theorem dX10_halvedPrice_106 : decode cX10_halvedPrice 106 = .ok (.if_icmp .ne 8, 3) := by decide +kernel
theorem dX10_halvedPrice_109 : decode cX10_halvedPrice 109 = .ok (.bipush 41, 2) := by decide +kernel
theorem dX10_halvedPrice_111 : decode cX10_halvedPrice 111 = .ok (.goto 4, 3) := by decide +kernel
theorem dX10_halvedPrice_114 : decode cX10_halvedPrice 114 = .ok (.iload_n 3, 1) := by decide +kernel
theorem dX10_halvedPrice_115 : decode cX10_halvedPrice 115 = .ok (.ireturn, 1) := by decide +kernel
theorem dX10_would_0 : decode cX10_would 0 = .ok (.sipush 520, 3) := by decide +kernel
theorem dX10_would_3 : decode cX10_would 3 = .ok (.iload_n 1, 1) := by decide +kernel
theorem dX10_would_4 : decode cX10_would 4 = .ok (.imul, 1) := by decide +kernel
theorem dX10_would_5 : decode cX10_would 5 = .ok (.iload_n 2, 1) := by decide +kernel
theorem dX10_would_6 : decode cX10_would 6 = .ok (.iadd, 1) := by decide +kernel
theorem dX10_would_7 : decode cX10_would 7 = .ok (.istore_n 3, 1) := by decide +kernel
theorem dX10_would_8 : decode cX10_would 8 = .ok (.aload_n 0, 1) := by decide +kernel
theorem dX10_would_9 : decode cX10_would 9 = .ok (.getfield 63, 3) := by decide +kernel
theorem dX10_would_12 : decode cX10_would 12 = .ok (.iload_n 3, 1) := by decide +kernel
theorem dX10_would_13 : decode cX10_would 13 = .ok (.baload, 1) := by decide +kernel
theorem dX10_would_14 : decode cX10_would 14 = .ok (.ifCond .eq 4, 3) := by decide +kernel
theorem dX10_would_17 : decode cX10_would 17 = .ok (.return_, 1) := by decide +kernel
theorem dX10_would_18 : decode cX10_would 18 = .ok (.iconst 0, 1) := by decide +kernel
theorem dX10_would_19 : decode cX10_would 19 = .ok (.istore 4, 2) := by decide +kernel
theorem dX10_would_21 : decode cX10_would 21 = .ok (.iconst 0, 1) := by decide +kernel
theorem dX10_would_22 : decode cX10_would 22 = .ok (.istore 5, 2) := by decide +kernel
theorem dX10_would_24 : decode cX10_would 24 = .ok (.aload_n 0, 1) := by decide +kernel
theorem dX10_would_25 : decode cX10_would 25 = .ok (.aload_n 0, 1) := by decide +kernel
theorem dX10_would_26 : decode cX10_would 26 = .ok (.getfield 175, 3) := by decide +kernel
theorem dX10_would_29 : decode cX10_would 29 = .ok (.iload_n 1, 1) := by decide +kernel
theorem dX10_would_30 : decode cX10_would 30 = .ok (.invokevirtual 165, 3) := by decide +kernel
theorem dX10_would_33 : decode cX10_would 33 = .ok (.ifCond .eq 36, 3) := by decide +kernel
theorem dX10_would_36 : decode cX10_would 36 = .ok (.aload_n 0, 1) := by decide +kernel
theorem dX10_would_37 : decode cX10_would 37 = .ok (.iload_n 1, 1) := by decide +kernel
theorem dX10_would_38 : decode cX10_would 38 = .ok (.iload_n 2, 1) := by decide +kernel
theorem dX10_would_39 : decode cX10_would 39 = .ok (.invokevirtual 213, 3) := by decide +kernel
theorem dX10_would_42 : decode cX10_would 42 = .ok (.istore 6, 2) := by decide +kernel
theorem dX10_would_44 : decode cX10_would 44 = .ok (.aload_n 0, 1) := by decide +kernel
theorem dX10_would_45 : decode cX10_would 45 = .ok (.aload_n 0, 1) := by decide +kernel
theorem dX10_would_46 : decode cX10_would 46 = .ok (.getfield 175, 3) := by decide +kernel
theorem dX10_would_49 : decode cX10_would 49 = .ok (.iload_n 1, 1) := by decide +kernel
theorem dX10_would_50 : decode cX10_would 50 = .ok (.iload 6, 2) := by decide +kernel
theorem dX10_would_52 : decode cX10_would 52 = .ok (.invokevirtual 168, 3) := by decide +kernel
theorem dX10_would_55 : decode cX10_would 55 = .ok (.istore 4, 2) := by decide +kernel
theorem dX10_would_57 : decode cX10_would 57 = .ok (.iload 6, 2) := by decide +kernel
theorem dX10_would_59 : decode cX10_would 59 = .ok (.iload_n 2, 1) := by decide +kernel
theorem dX10_would_60 : decode cX10_would 60 = .ok (.isub, 1) := by decide +kernel
theorem dX10_would_61 : decode cX10_would 61 = .ok (.iload 4, 2) := by decide +kernel
theorem dX10_would_63 : decode cX10_would 63 = .ok (.imul, 1) := by decide +kernel
theorem dX10_would_64 : decode cX10_would 64 = .ok (.istore 5, 2) := by decide +kernel
theorem dX10_would_66 : decode cX10_would 66 = .ok (.goto 106, 3) := by decide +kernel
theorem dX10_would_69 : decode cX10_would 69 = .ok (.iconst 0, 1) := by decide +kernel
theorem dX10_would_70 : decode cX10_would 70 = .ok (.istore 6, 2) := by decide +kernel
theorem dX10_would_72 : decode cX10_would 72 = .ok (.iload 6, 2) := by decide +kernel
theorem dX10_would_74 : decode cX10_would 74 = .ok (.aload_n 0, 1) := by decide +kernel
theorem dX10_would_75 : decode cX10_would 75 = .ok (.getfield 13, 3) := by decide +kernel
theorem dX10_would_78 : decode cX10_would 78 = .ok (.aload_n 0, 1) := by decide +kernel
theorem dX10_would_79 : decode cX10_would 79 = .ok (.getfield 175, 3) := by decide +kernel
theorem dX10_would_82 : decode cX10_would 82 = .ok (.iaload, 1) := by decide +kernel
theorem dX10_would_83 : decode cX10_would 83 = .ok (.if_icmp .ge 89, 3) := by decide +kernel
theorem dX10_would_86 : decode cX10_would 86 = .ok (.aload_n 0, 1) := by decide +kernel
theorem dX10_would_87 : decode cX10_would 87 = .ok (.aload_n 0, 1) := by decide +kernel
theorem dX10_would_88 : decode cX10_would 88 = .ok (.getfield 175, 3) := by decide +kernel
theorem dX10_would_91 : decode cX10_would 91 = .ok (.iload 6, 2) := by decide +kernel
theorem dX10_would_93 : decode cX10_would 93 = .ok (.iload_n 1, 1) := by decide +kernel
theorem dX10_would_94 : decode cX10_would 94 = .ok (.invokevirtual 151, 3) := by decide +kernel
theorem dX10_would_97 : decode cX10_would 97 = .ok (.ifCond .ne 6, 3) := by decide +kernel
theorem dX10_would_100 : decode cX10_would 100 = .ok (.goto 66, 3) := by decide +kernel
theorem dX10_would_103 : decode cX10_would 103 = .ok (.aload_n 0, 1) := by decide +kernel
theorem dX10_would_104 : decode cX10_would 104 = .ok (.iload 6, 2) := by decide +kernel
theorem dX10_would_106 : decode cX10_would 106 = .ok (.invokevirtual 207, 3) := by decide +kernel
theorem dX10_would_109 : decode cX10_would 109 = .ok (.ifCond .eq 7, 3) := by decide +kernel
theorem dX10_would_112 : decode cX10_would 112 = .ok (.iload_n 2, 1) := by decide +kernel
theorem dX10_would_113 : decode cX10_would 113 = .ok (.goto 11, 3) := by decide +kernel
theorem dX10_would_116 : decode cX10_would 116 = .ok (.aload_n 0, 1) := by decide +kernel
theorem dX10_would_117 : decode cX10_would 117 = .ok (.iload_n 1, 1) := by decide +kernel
theorem dX10_would_118 : decode cX10_would 118 = .ok (.iload 6, 2) := by decide +kernel
theorem dX10_would_120 : decode cX10_would 120 = .ok (.iload_n 2, 1) := by decide +kernel
theorem dX10_would_121 : decode cX10_would 121 = .ok (.invokevirtual 216, 3) := by decide +kernel
theorem dX10_would_124 : decode cX10_would 124 = .ok (.istore 7, 2) := by decide +kernel
theorem dX10_would_126 : decode cX10_would 126 = .ok (.aload_n 0, 1) := by decide +kernel
theorem dX10_would_127 : decode cX10_would 127 = .ok (.iload 6, 2) := by decide +kernel
theorem dX10_would_129 : decode cX10_would 129 = .ok (.iload 7, 2) := by decide +kernel
theorem dX10_would_131 : decode cX10_would 131 = .ok (.aload_n 0, 1) := by decide +kernel
theorem dX10_would_132 : decode cX10_would 132 = .ok (.aload_n 0, 1) := by decide +kernel
theorem dX10_would_133 : decode cX10_would 133 = .ok (.getfield 175, 3) := by decide +kernel
theorem dX10_would_136 : decode cX10_would 136 = .ok (.iload 6, 2) := by decide +kernel
theorem dX10_would_138 : decode cX10_would 138 = .ok (.invokevirtual 162, 3) := by decide +kernel
theorem dX10_would_141 : decode cX10_would 141 = .ok (.iadd, 1) := by decide +kernel
theorem dX10_would_142 : decode cX10_would 142 = .ok (.invokevirtual 204, 3) := by decide +kernel
theorem dX10_would_145 : decode cX10_would 145 = .ok (.istore 8, 2) := by decide +kernel
theorem dX10_would_147 : decode cX10_would 147 = .ok (.iload 4, 2) := by decide +kernel
theorem dX10_would_149 : decode cX10_would 149 = .ok (.iload 8, 2) := by decide +kernel
theorem dX10_would_151 : decode cX10_would 151 = .ok (.iadd, 1) := by decide +kernel
theorem dX10_would_152 : decode cX10_would 152 = .ok (.istore 4, 2) := by decide +kernel
theorem dX10_would_154 : decode cX10_would 154 = .ok (.iload 5, 2) := by decide +kernel
theorem dX10_would_156 : decode cX10_would 156 = .ok (.iload 7, 2) := by decide +kernel
theorem dX10_would_158 : decode cX10_would 158 = .ok (.iload_n 2, 1) := by decide +kernel
theorem dX10_would_159 : decode cX10_would 159 = .ok (.isub, 1) := by decide +kernel
theorem dX10_would_160 : decode cX10_would 160 = .ok (.iload 8, 2) := by decide +kernel
theorem dX10_would_162 : decode cX10_would 162 = .ok (.imul, 1) := by decide +kernel
theorem dX10_would_163 : decode cX10_would 163 = .ok (.iadd, 1) := by decide +kernel
theorem dX10_would_164 : decode cX10_would 164 = .ok (.istore 5, 2) := by decide +kernel
theorem dX10_would_166 : decode cX10_would 166 = .ok (.iinc 6 1, 3) := by decide +kernel
theorem dX10_would_169 : decode cX10_would 169 = .ok (.goto (-97), 3) := by decide +kernel
theorem dX10_would_172 : decode cX10_would 172 = .ok (.aload_n 0, 1) := by decide +kernel
theorem dX10_would_173 : decode cX10_would 173 = .ok (.getfield 57, 3) := by decide +kernel
theorem dX10_would_176 : decode cX10_would 176 = .ok (.iload_n 3, 1) := by decide +kernel
theorem dX10_would_177 : decode cX10_would 177 = .ok (.iload 4, 2) := by decide +kernel
theorem dX10_would_179 : decode cX10_would 179 = .ok (.iastore, 1) := by decide +kernel
theorem dX10_would_180 : decode cX10_would 180 = .ok (.aload_n 0, 1) := by decide +kernel
theorem dX10_would_181 : decode cX10_would 181 = .ok (.getfield 60, 3) := by decide +kernel
theorem dX10_would_184 : decode cX10_would 184 = .ok (.iload_n 3, 1) := by decide +kernel
theorem dX10_would_185 : decode cX10_would 185 = .ok (.iload 5, 2) := by decide +kernel
theorem dX10_would_187 : decode cX10_would 187 = .ok (.iastore, 1) := by decide +kernel
theorem dX10_would_188 : decode cX10_would 188 = .ok (.aload_n 0, 1) := by decide +kernel
theorem dX10_would_189 : decode cX10_would 189 = .ok (.getfield 63, 3) := by decide +kernel
theorem dX10_would_192 : decode cX10_would 192 = .ok (.iload_n 3, 1) := by decide +kernel
theorem dX10_would_193 : decode cX10_would 193 = .ok (.iconst 1, 1) := by decide +kernel
theorem dX10_would_194 : decode cX10_would 194 = .ok (.bastore, 1) := by decide +kernel
theorem dX10_would_195 : decode cX10_would 195 = .ok (.return_, 1) := by decide +kernel
theorem dX10_takeBy_0 : decode cX10_takeBy 0 = .ok (.aload_n 0, 1) := by decide +kernel
theorem dX10_takeBy_1 : decode cX10_takeBy 1 = .ok (.iload_n 1, 1) := by decide +kernel
theorem dX10_takeBy_2 : decode cX10_takeBy 2 = .ok (.iload_n 2, 1) := by decide +kernel
theorem dX10_takeBy_3 : decode cX10_takeBy 3 = .ok (.invokevirtual 219, 3) := by decide +kernel
theorem dX10_takeBy_6 : decode cX10_takeBy 6 = .ok (.aload_n 0, 1) := by decide +kernel
theorem dX10_takeBy_7 : decode cX10_takeBy 7 = .ok (.getfield 57, 3) := by decide +kernel
theorem dX10_takeBy_10 : decode cX10_takeBy 10 = .ok (.sipush 520, 3) := by decide +kernel
theorem dX10_takeBy_13 : decode cX10_takeBy 13 = .ok (.iload_n 1, 1) := by decide +kernel
theorem dX10_takeBy_14 : decode cX10_takeBy 14 = .ok (.imul, 1) := by decide +kernel
theorem dX10_takeBy_15 : decode cX10_takeBy 15 = .ok (.iload_n 2, 1) := by decide +kernel
theorem dX10_takeBy_16 : decode cX10_takeBy 16 = .ok (.iadd, 1) := by decide +kernel
theorem dX10_takeBy_17 : decode cX10_takeBy 17 = .ok (.iaload, 1) := by decide +kernel
theorem dX10_takeBy_18 : decode cX10_takeBy 18 = .ok (.ireturn, 1) := by decide +kernel
theorem dX10_earnBy_0 : decode cX10_earnBy 0 = .ok (.aload_n 0, 1) := by decide +kernel
theorem dX10_earnBy_1 : decode cX10_earnBy 1 = .ok (.iload_n 1, 1) := by decide +kernel
theorem dX10_earnBy_2 : decode cX10_earnBy 2 = .ok (.iload_n 2, 1) := by decide +kernel
theorem dX10_earnBy_3 : decode cX10_earnBy 3 = .ok (.invokevirtual 219, 3) := by decide +kernel
theorem dX10_earnBy_6 : decode cX10_earnBy 6 = .ok (.aload_n 0, 1) := by decide +kernel
theorem dX10_earnBy_7 : decode cX10_earnBy 7 = .ok (.getfield 60, 3) := by decide +kernel
theorem dX10_earnBy_10 : decode cX10_earnBy 10 = .ok (.sipush 520, 3) := by decide +kernel
theorem dX10_earnBy_13 : decode cX10_earnBy 13 = .ok (.iload_n 1, 1) := by decide +kernel
theorem dX10_earnBy_14 : decode cX10_earnBy 14 = .ok (.imul, 1) := by decide +kernel
theorem dX10_earnBy_15 : decode cX10_earnBy 15 = .ok (.iload_n 2, 1) := by decide +kernel
theorem dX10_earnBy_16 : decode cX10_earnBy 16 = .ok (.iadd, 1) := by decide +kernel
theorem dX10_earnBy_17 : decode cX10_earnBy 17 = .ok (.iaload, 1) := by decide +kernel
theorem dX10_earnBy_18 : decode cX10_earnBy 18 = .ok (.ireturn, 1) := by decide +kernel
theorem dX10_ask_0 : decode cX10_ask 0 = .ok (.aload_n 0, 1) := by decide +kernel
theorem dX10_ask_1 : decode cX10_ask 1 = .ok (.iconst 0, 1) := by decide +kernel
theorem dX10_ask_2 : decode cX10_ask 2 = .ok (.putfield 84, 3) := by decide +kernel
theorem dX10_ask_5 : decode cX10_ask 5 = .ok (.aload_n 0, 1) := by decide +kernel
theorem dX10_ask_6 : decode cX10_ask 6 = .ok (.iload_n 1, 1) := by decide +kernel
theorem dX10_ask_7 : decode cX10_ask 7 = .ok (.iload_n 2, 1) := by decide +kernel
theorem dX10_ask_8 : decode cX10_ask 8 = .ok (.invokevirtual 165, 3) := by decide +kernel
theorem dX10_ask_11 : decode cX10_ask 11 = .ok (.ifCond .eq 14, 3) := by decide +kernel
theorem dX10_ask_14 : decode cX10_ask 14 = .ok (.iload_n 3, 1) := by decide +kernel
theorem dX10_ask_15 : decode cX10_ask 15 = .ok (.iconst 0, 1) := by decide +kernel
theorem dX10_ask_16 : decode cX10_ask 16 = .ok (.sipush 300, 3) := by decide +kernel
theorem dX10_ask_19 : decode cX10_ask 19 = .ok (.invokestatic 123, 3) := by decide +kernel
theorem dX10_ask_22 : decode cX10_ask 22 = .ok (.ifCond .ne 5, 3) := by decide +kernel
theorem dX10_ask_25 : decode cX10_ask 25 = .ok (.iconst (-1), 1) := by decide +kernel
theorem dX10_ask_26 : decode cX10_ask 26 = .ok (.ireturn, 1) := by decide +kernel
theorem dX10_ask_27 : decode cX10_ask 27 = .ok (.aload_n 0, 1) := by decide +kernel
theorem dX10_ask_28 : decode cX10_ask 28 = .ok (.iload_n 1, 1) := by decide +kernel
theorem dX10_ask_29 : decode cX10_ask 29 = .ok (.invokevirtual 223, 3) := by decide +kernel
theorem dX10_ask_32 : decode cX10_ask 32 = .ok (.aload_n 0, 1) := by decide +kernel
theorem dX10_ask_33 : decode cX10_ask 33 = .ok (.iload_n 2, 1) := by decide +kernel
theorem dX10_ask_34 : decode cX10_ask 34 = .ok (.iload_n 3, 1) := by decide +kernel
theorem dX10_ask_35 : decode cX10_ask 35 = .ok (.invokevirtual 213, 3) := by decide +kernel
theorem dX10_ask_38 : decode cX10_ask 38 = .ok (.ireturn, 1) := by decide +kernel
theorem dX10_take_0 : decode cX10_take 0 = .ok (.aload_n 0, 1) := by decide +kernel
theorem dX10_take_1 : decode cX10_take 1 = .ok (.iconst 0, 1) := by decide +kernel
theorem dX10_take_2 : decode cX10_take 2 = .ok (.putfield 84, 3) := by decide +kernel
theorem dX10_take_5 : decode cX10_take 5 = .ok (.aload_n 0, 1) := by decide +kernel
theorem dX10_take_6 : decode cX10_take 6 = .ok (.iload_n 1, 1) := by decide +kernel
theorem dX10_take_7 : decode cX10_take 7 = .ok (.iload_n 2, 1) := by decide +kernel
theorem dX10_take_8 : decode cX10_take 8 = .ok (.invokevirtual 154, 3) := by decide +kernel
theorem dX10_take_11 : decode cX10_take 11 = .ok (.ifCond .eq 14, 3) := by decide +kernel
theorem dX10_take_14 : decode cX10_take 14 = .ok (.iload_n 3, 1) := by decide +kernel
theorem dX10_take_15 : decode cX10_take 15 = .ok (.iconst 0, 1) := by decide +kernel
theorem dX10_take_16 : decode cX10_take 16 = .ok (.sipush 300, 3) := by decide +kernel
theorem dX10_take_19 : decode cX10_take 19 = .ok (.invokestatic 123, 3) := by decide +kernel
theorem dX10_take_22 : decode cX10_take 22 = .ok (.ifCond .ne 5, 3) := by decide +kernel
theorem dX10_take_25 : decode cX10_take 25 = .ok (.iconst (-1), 1) := by decide +kernel
theorem dX10_take_26 : decode cX10_take 26 = .ok (.ireturn, 1) := by decide +kernel
theorem dX10_take_27 : decode cX10_take 27 = .ok (.aload_n 0, 1) := by decide +kernel
theorem dX10_take_28 : decode cX10_take 28 = .ok (.iload_n 1, 1) := by decide +kernel
theorem dX10_take_29 : decode cX10_take 29 = .ok (.invokevirtual 223, 3) := by decide +kernel
theorem dX10_take_32 : decode cX10_take 32 = .ok (.aload_n 0, 1) := by decide +kernel
theorem dX10_take_33 : decode cX10_take 33 = .ok (.iload_n 2, 1) := by decide +kernel
theorem dX10_take_34 : decode cX10_take 34 = .ok (.iload_n 3, 1) := by decide +kernel
theorem dX10_take_35 : decode cX10_take 35 = .ok (.invokevirtual 204, 3) := by decide +kernel
theorem dX10_take_38 : decode cX10_take 38 = .ok (.ireturn, 1) := by decide +kernel
theorem dX10_layOutcome_0 : decode cX10_layOutcome 0 = .ok (.iconst 0, 1) := by decide +kernel
theorem dX10_layOutcome_1 : decode cX10_layOutcome 1 = .ok (.istore_n 1, 1) := by decide +kernel
theorem dX10_layOutcome_2 : decode cX10_layOutcome 2 = .ok (.iload_n 1, 1) := by decide +kernel
theorem dX10_layOutcome_3 : decode cX10_layOutcome 3 = .ok (.aload_n 0, 1) := by decide +kernel
theorem dX10_layOutcome_4 : decode cX10_layOutcome 4 = .ok (.getfield 13, 3) := by decide +kernel
theorem dX10_layOutcome_7 : decode cX10_layOutcome 7 = .ok (.aload_n 0, 1) := by decide +kernel
theorem dX10_layOutcome_8 : decode cX10_layOutcome 8 = .ok (.getfield 175, 3) := by decide +kernel
theorem dX10_layOutcome_11 : decode cX10_layOutcome 11 = .ok (.iaload, 1) := by decide +kernel
theorem dX10_layOutcome_12 : decode cX10_layOutcome 12 = .ok (.if_icmp .ge 90, 3) := by decide +kernel
theorem dX10_layOutcome_15 : decode cX10_layOutcome 15 = .ok (.aload_n 0, 1) := by decide +kernel
theorem dX10_layOutcome_16 : decode cX10_layOutcome 16 = .ok (.getfield 20, 3) := by decide +kernel
theorem dX10_layOutcome_19 : decode cX10_layOutcome 19 = .ok (.bipush 8, 2) := by decide +kernel
theorem dX10_layOutcome_21 : decode cX10_layOutcome 21 = .ok (.aload_n 0, 1) := by decide +kernel
theorem dX10_layOutcome_22 : decode cX10_layOutcome 22 = .ok (.getfield 175, 3) := by decide +kernel
theorem dX10_layOutcome_25 : decode cX10_layOutcome 25 = .ok (.imul, 1) := by decide +kernel
theorem dX10_layOutcome_26 : decode cX10_layOutcome 26 = .ok (.iload_n 1, 1) := by decide +kernel
theorem dX10_layOutcome_27 : decode cX10_layOutcome 27 = .ok (.iadd, 1) := by decide +kernel
theorem dX10_layOutcome_28 : decode cX10_layOutcome 28 = .ok (.iaload, 1) := by decide +kernel
theorem dX10_layOutcome_29 : decode cX10_layOutcome 29 = .ok (.istore_n 2, 1) := by decide +kernel
theorem dX10_layOutcome_30 : decode cX10_layOutcome 30 = .ok (.aload_n 0, 1) := by decide +kernel
theorem dX10_layOutcome_31 : decode cX10_layOutcome 31 = .ok (.getfield 66, 3) := by decide +kernel
theorem dX10_layOutcome_34 : decode cX10_layOutcome 34 = .ok (.iload_n 1, 1) := by decide +kernel
theorem dX10_layOutcome_35 : decode cX10_layOutcome 35 = .ok (.iload_n 2, 1) := by decide +kernel
theorem dX10_layOutcome_36 : decode cX10_layOutcome 36 = .ok (.iconst (-1), 1) := by decide +kernel
theorem dX10_layOutcome_37 : decode cX10_layOutcome 37 = .ok (.if_icmp .ne 7, 3) := by decide +kernel
theorem dX10_layOutcome_40 : decode cX10_layOutcome 40 = .ok (.iconst 0, 1) := by decide +kernel
theorem dX10_layOutcome_41 : decode cX10_layOutcome 41 = .ok (.goto 32, 3) := by decide +kernel
theorem dX10_layOutcome_44 : decode cX10_layOutcome 44 = .ok (.aload_n 0, 1) := by decide +kernel
theorem dX10_layOutcome_45 : decode cX10_layOutcome 45 = .ok (.iload_n 1, 1) := by decide +kernel
theorem dX10_layOutcome_46 : decode cX10_layOutcome 46 = .ok (.invokevirtual 207, 3) := by decide +kernel
theorem dX10_layOutcome_49 : decode cX10_layOutcome 49 = .ok (.ifCond .eq 12, 3) := by decide +kernel
theorem dX10_layOutcome_52 : decode cX10_layOutcome 52 = .ok (.aload_n 0, 1) := by decide +kernel
theorem dX10_layOutcome_53 : decode cX10_layOutcome 53 = .ok (.getfield 69, 3) := by decide +kernel
theorem dX10_layOutcome_56 : decode cX10_layOutcome 56 = .ok (.iload_n 2, 1) := by decide +kernel
theorem dX10_layOutcome_57 : decode cX10_layOutcome 57 = .ok (.iaload, 1) := by decide +kernel
theorem dX10_layOutcome_58 : decode cX10_layOutcome 58 = .ok (.goto 15, 3) := by decide +kernel
theorem dX10_layOutcome_61 : decode cX10_layOutcome 61 = .ok (.aload_n 0, 1) := by decide +kernel
theorem dX10_layOutcome_62 : decode cX10_layOutcome 62 = .ok (.iload_n 2, 1) := by decide +kernel
theorem dX10_layOutcome_63 : decode cX10_layOutcome 63 = .ok (.iload_n 1, 1) := by decide +kernel
theorem dX10_layOutcome_64 : decode cX10_layOutcome 64 = .ok (.aload_n 0, 1) := by decide +kernel
theorem dX10_layOutcome_65 : decode cX10_layOutcome 65 = .ok (.getfield 69, 3) := by decide +kernel
theorem dX10_layOutcome_68 : decode cX10_layOutcome 68 = .ok (.iload_n 2, 1) := by decide +kernel
theorem dX10_layOutcome_69 : decode cX10_layOutcome 69 = .ok (.iaload, 1) := by decide +kernel
theorem dX10_layOutcome_70 : decode cX10_layOutcome 70 = .ok (.invokevirtual 216, 3) := by decide +kernel
theorem dX10_layOutcome_73 : decode cX10_layOutcome 73 = .ok (.iastore, 1) := by decide +kernel
theorem dX10_layOutcome_74 : decode cX10_layOutcome 74 = .ok (.aload_n 0, 1) := by decide +kernel
theorem dX10_layOutcome_75 : decode cX10_layOutcome 75 = .ok (.getfield 69, 3) := by decide +kernel
theorem dX10_layOutcome_78 : decode cX10_layOutcome 78 = .ok (.iload_n 1, 1) := by decide +kernel
theorem dX10_layOutcome_79 : decode cX10_layOutcome 79 = .ok (.aload_n 0, 1) := by decide +kernel
theorem dX10_layOutcome_80 : decode cX10_layOutcome 80 = .ok (.getfield 66, 3) := by decide +kernel
theorem dX10_layOutcome_83 : decode cX10_layOutcome 83 = .ok (.iload_n 1, 1) := by decide +kernel
theorem dX10_layOutcome_84 : decode cX10_layOutcome 84 = .ok (.iaload, 1) := by decide +kernel
theorem dX10_layOutcome_85 : decode cX10_layOutcome 85 = .ok (.aload_n 0, 1) := by decide +kernel
theorem dX10_layOutcome_86 : decode cX10_layOutcome 86 = .ok (.aload_n 0, 1) := by decide +kernel
theorem dX10_layOutcome_87 : decode cX10_layOutcome 87 = .ok (.getfield 175, 3) := by decide +kernel
theorem dX10_layOutcome_90 : decode cX10_layOutcome 90 = .ok (.iload_n 1, 1) := by decide +kernel
theorem dX10_layOutcome_91 : decode cX10_layOutcome 91 = .ok (.invokevirtual 162, 3) := by decide +kernel
theorem dX10_layOutcome_94 : decode cX10_layOutcome 94 = .ok (.iadd, 1) := by decide +kernel
theorem dX10_layOutcome_95 : decode cX10_layOutcome 95 = .ok (.iastore, 1) := by decide +kernel
theorem dX10_layOutcome_96 : decode cX10_layOutcome 96 = .ok (.iinc 1 1, 3) := by decide +kernel
theorem dX10_layOutcome_99 : decode cX10_layOutcome 99 = .ok (.goto (-97), 3) := by decide +kernel
theorem dX10_layOutcome_102 : decode cX10_layOutcome 102 = .ok (.return_, 1) := by decide +kernel
theorem dX10_earnsOf_0 : decode cX10_earnsOf 0 = .ok (.aload_n 0, 1) := by decide +kernel
theorem dX10_earnsOf_1 : decode cX10_earnsOf 1 = .ok (.iload_n 1, 1) := by decide +kernel
theorem dX10_earnsOf_2 : decode cX10_earnsOf 2 = .ok (.aload_n 0, 1) := by decide +kernel
theorem dX10_earnsOf_3 : decode cX10_earnsOf 3 = .ok (.getfield 69, 3) := by decide +kernel
theorem dX10_earnsOf_6 : decode cX10_earnsOf 6 = .ok (.iload_n 1, 1) := by decide +kernel
theorem dX10_earnsOf_7 : decode cX10_earnsOf 7 = .ok (.iaload, 1) := by decide +kernel
theorem dX10_earnsOf_8 : decode cX10_earnsOf 8 = .ok (.invokevirtual 210, 3) := by decide +kernel
theorem dX10_earnsOf_11 : decode cX10_earnsOf 11 = .ok (.ireturn, 1) := by decide +kernel
theorem dX10_outcome_0 : decode cX10_outcome 0 = .ok (.aload_n 0, 1) := by decide +kernel
theorem dX10_outcome_1 : decode cX10_outcome 1 = .ok (.iconst 0, 1) := by decide +kernel
theorem dX10_outcome_2 : decode cX10_outcome 2 = .ok (.putfield 84, 3) := by decide +kernel
theorem dX10_outcome_5 : decode cX10_outcome 5 = .ok (.aload_n 0, 1) := by decide +kernel
theorem dX10_outcome_6 : decode cX10_outcome 6 = .ok (.iload_n 1, 1) := by decide +kernel
theorem dX10_outcome_7 : decode cX10_outcome 7 = .ok (.iload_n 2, 1) := by decide +kernel
theorem dX10_outcome_8 : decode cX10_outcome 8 = .ok (.invokevirtual 154, 3) := by decide +kernel
theorem dX10_outcome_11 : decode cX10_outcome 11 = .ok (.ifCond .eq 12, 3) := by decide +kernel
theorem dX10_outcome_14 : decode cX10_outcome 14 = .ok (.iload_n 3, 1) := by decide +kernel
theorem dX10_outcome_15 : decode cX10_outcome 15 = .ok (.iconst 0, 1) := by decide +kernel
theorem dX10_outcome_16 : decode cX10_outcome 16 = .ok (.iconst 3, 1) := by decide +kernel
theorem dX10_outcome_17 : decode cX10_outcome 17 = .ok (.invokestatic 123, 3) := by decide +kernel
theorem dX10_outcome_20 : decode cX10_outcome 20 = .ok (.ifCond .ne 6, 3) := by decide +kernel
theorem dX10_outcome_23 : decode cX10_outcome 23 = .ok (.ldc 226, 2) := by decide +kernel
theorem dX10_outcome_25 : decode cX10_outcome 25 = .ok (.ireturn, 1) := by decide +kernel
theorem dX10_outcome_26 : decode cX10_outcome 26 = .ok (.aload_n 0, 1) := by decide +kernel
theorem dX10_outcome_27 : decode cX10_outcome 27 = .ok (.iload_n 1, 1) := by decide +kernel
theorem dX10_outcome_28 : decode cX10_outcome 28 = .ok (.invokevirtual 223, 3) := by decide +kernel
theorem dX10_outcome_31 : decode cX10_outcome 31 = .ok (.aload_n 0, 1) := by decide +kernel
theorem dX10_outcome_32 : decode cX10_outcome 32 = .ok (.invokevirtual 227, 3) := by decide +kernel
theorem dX10_outcome_35 : decode cX10_outcome 35 = .ok (.iload_n 3, 1) := by decide +kernel
theorem dX10_outcome_36 : decode cX10_outcome 36 = .ok (.tableswitch 72 0 2 #[28, 35, 60], 28) := by decide +kernel
theorem dX10_outcome_64 : decode cX10_outcome 64 = .ok (.aload_n 0, 1) := by decide +kernel
theorem dX10_outcome_65 : decode cX10_outcome 65 = .ok (.getfield 66, 3) := by decide +kernel
theorem dX10_outcome_68 : decode cX10_outcome 68 = .ok (.iload_n 2, 1) := by decide +kernel
theorem dX10_outcome_69 : decode cX10_outcome 69 = .ok (.iaload, 1) := by decide +kernel
theorem dX10_outcome_70 : decode cX10_outcome 70 = .ok (.ireturn, 1) := by decide +kernel
theorem dX10_outcome_71 : decode cX10_outcome 71 = .ok (.aload_n 0, 1) := by decide +kernel
theorem dX10_outcome_72 : decode cX10_outcome 72 = .ok (.iload_n 1, 1) := by decide +kernel
theorem dX10_outcome_73 : decode cX10_outcome 73 = .ok (.iload_n 2, 1) := by decide +kernel
theorem dX10_outcome_74 : decode cX10_outcome 74 = .ok (.invokevirtual 165, 3) := by decide +kernel
theorem dX10_outcome_77 : decode cX10_outcome 77 = .ok (.ifCond .eq 17, 3) := by decide +kernel
theorem dX10_outcome_80 : decode cX10_outcome 80 = .ok (.aload_n 0, 1) := by decide +kernel
theorem dX10_outcome_81 : decode cX10_outcome 81 = .ok (.iload_n 2, 1) := by decide +kernel
theorem dX10_outcome_82 : decode cX10_outcome 82 = .ok (.aload_n 0, 1) := by decide +kernel
theorem dX10_outcome_83 : decode cX10_outcome 83 = .ok (.getfield 69, 3) := by decide +kernel
theorem dX10_outcome_86 : decode cX10_outcome 86 = .ok (.iload_n 2, 1) := by decide +kernel
theorem dX10_outcome_87 : decode cX10_outcome 87 = .ok (.iaload, 1) := by decide +kernel
theorem dX10_outcome_88 : decode cX10_outcome 88 = .ok (.invokevirtual 213, 3) := by decide +kernel
theorem dX10_outcome_91 : decode cX10_outcome 91 = .ok (.goto 4, 3) := by decide +kernel
theorem dX10_outcome_94 : decode cX10_outcome 94 = .ok (.iconst (-1), 1) := by decide +kernel
theorem dX10_outcome_95 : decode cX10_outcome 95 = .ok (.ireturn, 1) := by decide +kernel
theorem dX10_outcome_96 : decode cX10_outcome 96 = .ok (.aload_n 0, 1) := by decide +kernel
theorem dX10_outcome_97 : decode cX10_outcome 97 = .ok (.iload_n 2, 1) := by decide +kernel
theorem dX10_outcome_98 : decode cX10_outcome 98 = .ok (.aload_n 0, 1) := by decide +kernel
theorem dX10_outcome_99 : decode cX10_outcome 99 = .ok (.getfield 69, 3) := by decide +kernel
theorem dX10_outcome_102 : decode cX10_outcome 102 = .ok (.iload_n 2, 1) := by decide +kernel
theorem dX10_outcome_103 : decode cX10_outcome 103 = .ok (.iaload, 1) := by decide +kernel
theorem dX10_outcome_104 : decode cX10_outcome 104 = .ok (.invokevirtual 204, 3) := by decide +kernel
theorem dX10_outcome_107 : decode cX10_outcome 107 = .ok (.ireturn, 1) := by decide +kernel
theorem dX10_outcome_108 : decode cX10_outcome 108 = .ok (.aload_n 0, 1) := by decide +kernel
theorem dX10_outcome_109 : decode cX10_outcome 109 = .ok (.iload_n 2, 1) := by decide +kernel
theorem dX10_outcome_110 : decode cX10_outcome 110 = .ok (.invokevirtual 230, 3) := by decide +kernel
theorem dX10_outcome_113 : decode cX10_outcome 113 = .ok (.ireturn, 1) := by decide +kernel
theorem dX10_allEarn_0 : decode cX10_allEarn 0 = .ok (.aload_n 0, 1) := by decide +kernel
theorem dX10_allEarn_1 : decode cX10_allEarn 1 = .ok (.invokevirtual 227, 3) := by decide +kernel
theorem dX10_allEarn_4 : decode cX10_allEarn 4 = .ok (.iconst 0, 1) := by decide +kernel
theorem dX10_allEarn_5 : decode cX10_allEarn 5 = .ok (.istore_n 1, 1) := by decide +kernel
theorem dX10_allEarn_6 : decode cX10_allEarn 6 = .ok (.iconst 0, 1) := by decide +kernel
theorem dX10_allEarn_7 : decode cX10_allEarn 7 = .ok (.istore_n 2, 1) := by decide +kernel
theorem dX10_allEarn_8 : decode cX10_allEarn 8 = .ok (.iload_n 2, 1) := by decide +kernel
theorem dX10_allEarn_9 : decode cX10_allEarn 9 = .ok (.aload_n 0, 1) := by decide +kernel
theorem dX10_allEarn_10 : decode cX10_allEarn 10 = .ok (.getfield 13, 3) := by decide +kernel
theorem dX10_allEarn_13 : decode cX10_allEarn 13 = .ok (.aload_n 0, 1) := by decide +kernel
theorem dX10_allEarn_14 : decode cX10_allEarn 14 = .ok (.getfield 175, 3) := by decide +kernel
theorem dX10_allEarn_17 : decode cX10_allEarn 17 = .ok (.iaload, 1) := by decide +kernel
theorem dX10_allEarn_18 : decode cX10_allEarn 18 = .ok (.if_icmp .ge 17, 3) := by decide +kernel
theorem dX10_allEarn_21 : decode cX10_allEarn 21 = .ok (.iload_n 1, 1) := by decide +kernel
theorem dX10_allEarn_22 : decode cX10_allEarn 22 = .ok (.aload_n 0, 1) := by decide +kernel
theorem dX10_allEarn_23 : decode cX10_allEarn 23 = .ok (.iload_n 2, 1) := by decide +kernel
theorem dX10_allEarn_24 : decode cX10_allEarn 24 = .ok (.invokevirtual 230, 3) := by decide +kernel
theorem dX10_allEarn_27 : decode cX10_allEarn 27 = .ok (.iadd, 1) := by decide +kernel
theorem dX10_allEarn_28 : decode cX10_allEarn 28 = .ok (.istore_n 1, 1) := by decide +kernel
theorem dX10_allEarn_29 : decode cX10_allEarn 29 = .ok (.iinc 2 1, 3) := by decide +kernel
theorem dX10_allEarn_32 : decode cX10_allEarn 32 = .ok (.goto (-24), 3) := by decide +kernel
theorem dX10_allEarn_35 : decode cX10_allEarn 35 = .ok (.iload_n 1, 1) := by decide +kernel
theorem dX10_allEarn_36 : decode cX10_allEarn 36 = .ok (.ireturn, 1) := by decide +kernel
theorem dX10_saving_0 : decode cX10_saving 0 = .ok (.aload_n 0, 1) := by decide +kernel
theorem dX10_saving_1 : decode cX10_saving 1 = .ok (.invokevirtual 227, 3) := by decide +kernel
theorem dX10_saving_4 : decode cX10_saving 4 = .ok (.iconst 0, 1) := by decide +kernel
theorem dX10_saving_5 : decode cX10_saving 5 = .ok (.istore_n 1, 1) := by decide +kernel
theorem dX10_saving_6 : decode cX10_saving 6 = .ok (.iconst 0, 1) := by decide +kernel
theorem dX10_saving_7 : decode cX10_saving 7 = .ok (.istore_n 2, 1) := by decide +kernel
theorem dX10_saving_8 : decode cX10_saving 8 = .ok (.iload_n 2, 1) := by decide +kernel
theorem dX10_saving_9 : decode cX10_saving 9 = .ok (.aload_n 0, 1) := by decide +kernel
theorem dX10_saving_10 : decode cX10_saving 10 = .ok (.getfield 26, 3) := by decide +kernel
theorem dX10_saving_13 : decode cX10_saving 13 = .ok (.aload_n 0, 1) := by decide +kernel
theorem dX10_saving_14 : decode cX10_saving 14 = .ok (.getfield 175, 3) := by decide +kernel
theorem dX10_saving_17 : decode cX10_saving 17 = .ok (.iaload, 1) := by decide +kernel
theorem dX10_saving_18 : decode cX10_saving 18 = .ok (.if_icmp .ge 110, 3) := by decide +kernel
theorem dX10_saving_21 : decode cX10_saving 21 = .ok (.aload_n 0, 1) := by decide +kernel
theorem dX10_saving_22 : decode cX10_saving 22 = .ok (.getfield 29, 3) := by decide +kernel
theorem dX10_saving_25 : decode cX10_saving 25 = .ok (.bipush 20, 2) := by decide +kernel
theorem dX10_saving_27 : decode cX10_saving 27 = .ok (.aload_n 0, 1) := by decide +kernel
theorem dX10_saving_28 : decode cX10_saving 28 = .ok (.getfield 175, 3) := by decide +kernel
theorem dX10_saving_31 : decode cX10_saving 31 = .ok (.imul, 1) := by decide +kernel
theorem dX10_saving_32 : decode cX10_saving 32 = .ok (.iload_n 2, 1) := by decide +kernel
theorem dX10_saving_33 : decode cX10_saving 33 = .ok (.iadd, 1) := by decide +kernel
theorem dX10_saving_34 : decode cX10_saving 34 = .ok (.iaload, 1) := by decide +kernel
theorem dX10_saving_35 : decode cX10_saving 35 = .ok (.istore_n 3, 1) := by decide +kernel
theorem dX10_saving_36 : decode cX10_saving 36 = .ok (.aload_n 0, 1) := by decide +kernel
theorem dX10_saving_37 : decode cX10_saving 37 = .ok (.aload_n 0, 1) := by decide +kernel
theorem dX10_saving_38 : decode cX10_saving 38 = .ok (.getfield 175, 3) := by decide +kernel
theorem dX10_saving_41 : decode cX10_saving 41 = .ok (.iload_n 3, 1) := by decide +kernel
theorem dX10_saving_42 : decode cX10_saving 42 = .ok (.invokevirtual 165, 3) := by decide +kernel
theorem dX10_saving_45 : decode cX10_saving 45 = .ok (.ifCond .ne 6, 3) := by decide +kernel
theorem dX10_saving_48 : decode cX10_saving 48 = .ok (.goto 74, 3) := by decide +kernel
theorem dX10_saving_51 : decode cX10_saving 51 = .ok (.aload_n 0, 1) := by decide +kernel
theorem dX10_saving_52 : decode cX10_saving 52 = .ok (.iload_n 3, 1) := by decide +kernel
theorem dX10_saving_53 : decode cX10_saving 53 = .ok (.aload_n 0, 1) := by decide +kernel
theorem dX10_saving_54 : decode cX10_saving 54 = .ok (.getfield 69, 3) := by decide +kernel
theorem dX10_saving_57 : decode cX10_saving 57 = .ok (.iload_n 3, 1) := by decide +kernel
theorem dX10_saving_58 : decode cX10_saving 58 = .ok (.iaload, 1) := by decide +kernel
theorem dX10_saving_59 : decode cX10_saving 59 = .ok (.invokevirtual 213, 3) := by decide +kernel
theorem dX10_saving_62 : decode cX10_saving 62 = .ok (.istore 4, 2) := by decide +kernel
theorem dX10_saving_64 : decode cX10_saving 64 = .ok (.iload_n 1, 1) := by decide +kernel
theorem dX10_saving_65 : decode cX10_saving 65 = .ok (.aload_n 0, 1) := by decide +kernel
theorem dX10_saving_66 : decode cX10_saving 66 = .ok (.getfield 32, 3) := by decide +kernel
theorem dX10_saving_69 : decode cX10_saving 69 = .ok (.bipush 20, 2) := by decide +kernel
theorem dX10_saving_71 : decode cX10_saving 71 = .ok (.aload_n 0, 1) := by decide +kernel
theorem dX10_saving_72 : decode cX10_saving 72 = .ok (.getfield 175, 3) := by decide +kernel
theorem dX10_saving_75 : decode cX10_saving 75 = .ok (.imul, 1) := by decide +kernel
theorem dX10_saving_76 : decode cX10_saving 76 = .ok (.iload_n 2, 1) := by decide +kernel
theorem dX10_saving_77 : decode cX10_saving 77 = .ok (.iadd, 1) := by decide +kernel
theorem dX10_saving_78 : decode cX10_saving 78 = .ok (.iaload, 1) := by decide +kernel
theorem dX10_saving_79 : decode cX10_saving 79 = .ok (.iload 4, 2) := by decide +kernel
theorem dX10_saving_81 : decode cX10_saving 81 = .ok (.if_icmp .lt 38, 3) := by decide +kernel
theorem dX10_saving_84 : decode cX10_saving 84 = .ok (.aload_n 0, 1) := by decide +kernel
theorem dX10_saving_85 : decode cX10_saving 85 = .ok (.getfield 32, 3) := by decide +kernel
theorem dX10_saving_88 : decode cX10_saving 88 = .ok (.bipush 20, 2) := by decide +kernel
theorem dX10_saving_90 : decode cX10_saving 90 = .ok (.aload_n 0, 1) := by decide +kernel
theorem dX10_saving_91 : decode cX10_saving 91 = .ok (.getfield 175, 3) := by decide +kernel
theorem dX10_saving_94 : decode cX10_saving 94 = .ok (.imul, 1) := by decide +kernel
theorem dX10_saving_95 : decode cX10_saving 95 = .ok (.iload_n 2, 1) := by decide +kernel
theorem dX10_saving_96 : decode cX10_saving 96 = .ok (.iadd, 1) := by decide +kernel
theorem dX10_saving_97 : decode cX10_saving 97 = .ok (.iaload, 1) := by decide +kernel
theorem dX10_saving_98 : decode cX10_saving 98 = .ok (.iload 4, 2) := by decide +kernel
theorem dX10_saving_100 : decode cX10_saving 100 = .ok (.isub, 1) := by decide +kernel
theorem dX10_saving_101 : decode cX10_saving 101 = .ok (.aload_n 0, 1) := by decide +kernel
theorem dX10_saving_102 : decode cX10_saving 102 = .ok (.getfield 35, 3) := by decide +kernel
theorem dX10_saving_105 : decode cX10_saving 105 = .ok (.bipush 20, 2) := by decide +kernel
theorem dX10_saving_107 : decode cX10_saving 107 = .ok (.aload_n 0, 1) := by decide +kernel
theorem dX10_saving_108 : decode cX10_saving 108 = .ok (.getfield 175, 3) := by decide +kernel
theorem dX10_saving_111 : decode cX10_saving 111 = .ok (.imul, 1) := by decide +kernel
theorem dX10_saving_112 : decode cX10_saving 112 = .ok (.iload_n 2, 1) := by decide +kernel
theorem dX10_saving_113 : decode cX10_saving 113 = .ok (.iadd, 1) := by decide +kernel
theorem dX10_saving_114 : decode cX10_saving 114 = .ok (.iaload, 1) := by decide +kernel
theorem dX10_saving_115 : decode cX10_saving 115 = .ok (.imul, 1) := by decide +kernel
theorem dX10_saving_116 : decode cX10_saving 116 = .ok (.goto 4, 3) := by decide +kernel
theorem dX10_saving_119 : decode cX10_saving 119 = .ok (.iconst 0, 1) := by decide +kernel
theorem dX10_saving_120 : decode cX10_saving 120 = .ok (.iadd, 1) := by decide +kernel
theorem dX10_saving_121 : decode cX10_saving 121 = .ok (.istore_n 1, 1) := by decide +kernel
theorem dX10_saving_122 : decode cX10_saving 122 = .ok (.iinc 2 1, 3) := by decide +kernel
theorem dX10_saving_125 : decode cX10_saving 125 = .ok (.goto (-117), 3) := by decide +kernel
theorem dX10_saving_128 : decode cX10_saving 128 = .ok (.iload_n 1, 1) := by decide +kernel
theorem dX10_saving_129 : decode cX10_saving 129 = .ok (.ireturn, 1) := by decide +kernel
theorem dX10_everybody_0 : decode cX10_everybody 0 = .ok (.iconst 1, 1) := by decide +kernel
theorem dX10_everybody_1 : decode cX10_everybody 1 = .ok (.aload_n 0, 1) := by decide +kernel
theorem dX10_everybody_2 : decode cX10_everybody 2 = .ok (.getfield 13, 3) := by decide +kernel
theorem dX10_everybody_5 : decode cX10_everybody 5 = .ok (.iload_n 1, 1) := by decide +kernel
theorem dX10_everybody_6 : decode cX10_everybody 6 = .ok (.iaload, 1) := by decide +kernel
theorem dX10_everybody_7 : decode cX10_everybody 7 = .ok (.ishl, 1) := by decide +kernel
theorem dX10_everybody_8 : decode cX10_everybody 8 = .ok (.iconst 1, 1) := by decide +kernel
theorem dX10_everybody_9 : decode cX10_everybody 9 = .ok (.isub, 1) := by decide +kernel
theorem dX10_everybody_10 : decode cX10_everybody 10 = .ok (.ireturn, 1) := by decide +kernel
theorem dX10_sum_0 : decode cX10_sum 0 = .ok (.aload_n 0, 1) := by decide +kernel
theorem dX10_sum_1 : decode cX10_sum 1 = .ok (.iconst 0, 1) := by decide +kernel
theorem dX10_sum_2 : decode cX10_sum 2 = .ok (.putfield 84, 3) := by decide +kernel
theorem dX10_sum_5 : decode cX10_sum 5 = .ok (.aload_n 0, 1) := by decide +kernel
theorem dX10_sum_6 : decode cX10_sum 6 = .ok (.iload_n 1, 1) := by decide +kernel
theorem dX10_sum_7 : decode cX10_sum 7 = .ok (.invokevirtual 148, 3) := by decide +kernel
theorem dX10_sum_10 : decode cX10_sum 10 = .ok (.ifCond .eq 12, 3) := by decide +kernel
theorem dX10_sum_13 : decode cX10_sum 13 = .ok (.iload_n 2, 1) := by decide +kernel
theorem dX10_sum_14 : decode cX10_sum 14 = .ok (.iconst 0, 1) := by decide +kernel
theorem dX10_sum_15 : decode cX10_sum 15 = .ok (.iconst 3, 1) := by decide +kernel
theorem dX10_sum_16 : decode cX10_sum 16 = .ok (.invokestatic 123, 3) := by decide +kernel
theorem dX10_sum_19 : decode cX10_sum 19 = .ok (.ifCond .ne 6, 3) := by decide +kernel
theorem dX10_sum_22 : decode cX10_sum 22 = .ok (.ldc 226, 2) := by decide +kernel
theorem dX10_sum_24 : decode cX10_sum 24 = .ok (.ireturn, 1) := by decide +kernel
theorem dX10_sum_25 : decode cX10_sum 25 = .ok (.aload_n 0, 1) := by decide +kernel
theorem dX10_sum_26 : decode cX10_sum 26 = .ok (.iload_n 1, 1) := by decide +kernel
theorem dX10_sum_27 : decode cX10_sum 27 = .ok (.invokevirtual 223, 3) := by decide +kernel
theorem dX10_sum_30 : decode cX10_sum 30 = .ok (.iload_n 2, 1) := by decide +kernel
theorem dX10_sum_31 : decode cX10_sum 31 = .ok (.iconst 3, 1) := by decide +kernel
theorem dX10_sum_32 : decode cX10_sum 32 = .ok (.if_icmp .ne 8, 3) := by decide +kernel
theorem dX10_sum_35 : decode cX10_sum 35 = .ok (.aload_n 0, 1) := by decide +kernel
theorem dX10_sum_36 : decode cX10_sum 36 = .ok (.invokevirtual 233, 3) := by decide +kernel
theorem dX10_sum_39 : decode cX10_sum 39 = .ok (.ireturn, 1) := by decide +kernel
theorem dX10_sum_40 : decode cX10_sum 40 = .ok (.aload_n 0, 1) := by decide +kernel
theorem dX10_sum_41 : decode cX10_sum 41 = .ok (.invokevirtual 236, 3) := by decide +kernel
theorem dX10_sum_44 : decode cX10_sum 44 = .ok (.istore_n 3, 1) := by decide +kernel
theorem dX10_sum_45 : decode cX10_sum 45 = .ok (.iload_n 2, 1) := by decide +kernel
theorem dX10_sum_46 : decode cX10_sum 46 = .ok (.ifCond .ne 5, 3) := by decide +kernel
theorem dX10_sum_49 : decode cX10_sum 49 = .ok (.iload_n 3, 1) := by decide +kernel
theorem dX10_sum_50 : decode cX10_sum 50 = .ok (.ireturn, 1) := by decide +kernel
theorem dX10_sum_51 : decode cX10_sum 51 = .ok (.aload_n 0, 1) := by decide +kernel
theorem dX10_sum_52 : decode cX10_sum 52 = .ok (.iload_n 1, 1) := by decide +kernel
theorem dX10_sum_53 : decode cX10_sum 53 = .ok (.aload_n 0, 1) := by decide +kernel
theorem dX10_sum_54 : decode cX10_sum 54 = .ok (.iload_n 1, 1) := by decide +kernel
theorem dX10_sum_55 : decode cX10_sum 55 = .ok (.invokevirtual 239, 3) := by decide +kernel
theorem dX10_sum_58 : decode cX10_sum 58 = .ok (.aload_n 0, 1) := by decide +kernel
theorem dX10_sum_59 : decode cX10_sum 59 = .ok (.getfield 41, 3) := by decide +kernel
theorem dX10_sum_62 : decode cX10_sum 62 = .ok (.iload_n 1, 1) := by decide +kernel
theorem dX10_sum_63 : decode cX10_sum 63 = .ok (.iaload, 1) := by decide +kernel
theorem dX10_sum_64 : decode cX10_sum 64 = .ok (.iconst 0, 1) := by decide +kernel
theorem dX10_sum_65 : decode cX10_sum 65 = .ok (.iconst 0, 1) := by decide +kernel
theorem dX10_sum_66 : decode cX10_sum 66 = .ok (.invokevirtual 191, 3) := by decide +kernel
theorem dX10_sum_69 : decode cX10_sum 69 = .ok (.aload_n 0, 1) := by decide +kernel
theorem dX10_sum_70 : decode cX10_sum 70 = .ok (.invokevirtual 236, 3) := by decide +kernel
theorem dX10_sum_73 : decode cX10_sum 73 = .ok (.istore 4, 2) := by decide +kernel
theorem dX10_sum_75 : decode cX10_sum 75 = .ok (.iload_n 2, 1) := by decide +kernel
theorem dX10_sum_76 : decode cX10_sum 76 = .ok (.iconst 1, 1) := by decide +kernel
theorem dX10_sum_77 : decode cX10_sum 77 = .ok (.if_icmp .ne 8, 3) := by decide +kernel
theorem dX10_sum_80 : decode cX10_sum 80 = .ok (.iload 4, 2) := by decide +kernel
theorem dX10_sum_82 : decode cX10_sum 82 = .ok (.goto 7, 3) := by decide +kernel
theorem dX10_sum_85 : decode cX10_sum 85 = .ok (.iload 4, 2) := by decide +kernel
theorem dX10_sum_87 : decode cX10_sum 87 = .ok (.iload_n 3, 1) := by decide +kernel
theorem dX10_sum_88 : decode cX10_sum 88 = .ok (.isub, 1) := by decide +kernel
theorem dX10_sum_89 : decode cX10_sum 89 = .ok (.ireturn, 1) := by decide +kernel
theorem dX10_passed_0 : decode cX10_passed 0 = .ok (.aload_n 0, 1) := by decide +kernel
theorem dX10_passed_1 : decode cX10_passed 1 = .ok (.iconst 0, 1) := by decide +kernel
theorem dX10_passed_2 : decode cX10_passed 2 = .ok (.putfield 84, 3) := by decide +kernel
theorem dX10_passed_5 : decode cX10_passed 5 = .ok (.aload_n 0, 1) := by decide +kernel
theorem dX10_passed_6 : decode cX10_passed 6 = .ok (.iload_n 1, 1) := by decide +kernel
theorem dX10_passed_7 : decode cX10_passed 7 = .ok (.iload_n 2, 1) := by decide +kernel
theorem dX10_passed_8 : decode cX10_passed 8 = .ok (.invokevirtual 154, 3) := by decide +kernel
theorem dX10_passed_11 : decode cX10_passed 11 = .ok (.ifCond .eq 23, 3) := by decide +kernel
theorem dX10_passed_14 : decode cX10_passed 14 = .ok (.iload_n 3, 1) := by decide +kernel
theorem dX10_passed_15 : decode cX10_passed 15 = .ok (.iconst 0, 1) := by decide +kernel
theorem dX10_passed_16 : decode cX10_passed 16 = .ok (.bipush 30, 2) := by decide +kernel
theorem dX10_passed_18 : decode cX10_passed 18 = .ok (.invokestatic 123, 3) := by decide +kernel
theorem dX10_passed_21 : decode cX10_passed 21 = .ok (.ifCond .eq 13, 3) := by decide +kernel
theorem dX10_passed_24 : decode cX10_passed 24 = .ok (.aload_n 0, 1) := by decide +kernel
theorem dX10_passed_25 : decode cX10_passed 25 = .ok (.iload_n 1, 1) := by decide +kernel
theorem dX10_passed_26 : decode cX10_passed 26 = .ok (.iload 4, 2) := by decide +kernel
theorem dX10_passed_28 : decode cX10_passed 28 = .ok (.invokevirtual 165, 3) := by decide +kernel
theorem dX10_passed_31 : decode cX10_passed 31 = .ok (.ifCond .ne 6, 3) := by decide +kernel
theorem dX10_passed_34 : decode cX10_passed 34 = .ok (.ldc 226, 2) := by decide +kernel
theorem dX10_passed_36 : decode cX10_passed 36 = .ok (.ireturn, 1) := by decide +kernel
theorem dX10_passed_37 : decode cX10_passed 37 = .ok (.aload_n 0, 1) := by decide +kernel
theorem dX10_passed_38 : decode cX10_passed 38 = .ok (.iload_n 1, 1) := by decide +kernel
theorem dX10_passed_39 : decode cX10_passed 39 = .ok (.invokevirtual 223, 3) := by decide +kernel
theorem dX10_passed_42 : decode cX10_passed 42 = .ok (.aload_n 0, 1) := by decide +kernel
theorem dX10_passed_43 : decode cX10_passed 43 = .ok (.invokevirtual 227, 3) := by decide +kernel
theorem dX10_passed_46 : decode cX10_passed 46 = .ok (.aload_n 0, 1) := by decide +kernel
theorem dX10_passed_47 : decode cX10_passed 47 = .ok (.iload 4, 2) := by decide +kernel
theorem dX10_passed_49 : decode cX10_passed 49 = .ok (.aload_n 0, 1) := by decide +kernel
theorem dX10_passed_50 : decode cX10_passed 50 = .ok (.getfield 69, 3) := by decide +kernel
theorem dX10_passed_53 : decode cX10_passed 53 = .ok (.iload 4, 2) := by decide +kernel
theorem dX10_passed_55 : decode cX10_passed 55 = .ok (.iaload, 1) := by decide +kernel
theorem dX10_passed_56 : decode cX10_passed 56 = .ok (.invokevirtual 213, 3) := by decide +kernel
theorem dX10_passed_59 : decode cX10_passed 59 = .ok (.istore 5, 2) := by decide +kernel
theorem dX10_passed_61 : decode cX10_passed 61 = .ok (.aload_n 0, 1) := by decide +kernel
theorem dX10_passed_62 : decode cX10_passed 62 = .ok (.getfield 17, 3) := by decide +kernel
theorem dX10_passed_65 : decode cX10_passed 65 = .ok (.bipush 8, 2) := by decide +kernel
theorem dX10_passed_67 : decode cX10_passed 67 = .ok (.iload_n 1, 1) := by decide +kernel
theorem dX10_passed_68 : decode cX10_passed 68 = .ok (.imul, 1) := by decide +kernel
theorem dX10_passed_69 : decode cX10_passed 69 = .ok (.iload_n 2, 1) := by decide +kernel
theorem dX10_passed_70 : decode cX10_passed 70 = .ok (.iadd, 1) := by decide +kernel
theorem dX10_passed_71 : decode cX10_passed 71 = .ok (.dup2, 1) := by decide +kernel
theorem dX10_passed_72 : decode cX10_passed 72 = .ok (.iaload, 1) := by decide +kernel
theorem dX10_passed_73 : decode cX10_passed 73 = .ok (.iload_n 3, 1) := by decide +kernel
theorem dX10_passed_74 : decode cX10_passed 74 = .ok (.iadd, 1) := by decide +kernel
theorem dX10_passed_75 : decode cX10_passed 75 = .ok (.iastore, 1) := by decide +kernel
theorem dX10_passed_76 : decode cX10_passed 76 = .ok (.aload_n 0, 1) := by decide +kernel
theorem dX10_passed_77 : decode cX10_passed 77 = .ok (.iload_n 1, 1) := by decide +kernel
theorem dX10_passed_78 : decode cX10_passed 78 = .ok (.invokevirtual 223, 3) := by decide +kernel
theorem dX10_passed_81 : decode cX10_passed 81 = .ok (.aload_n 0, 1) := by decide +kernel
theorem dX10_passed_82 : decode cX10_passed 82 = .ok (.invokevirtual 227, 3) := by decide +kernel
theorem dX10_passed_85 : decode cX10_passed 85 = .ok (.aload_n 0, 1) := by decide +kernel
theorem dX10_passed_86 : decode cX10_passed 86 = .ok (.iload 4, 2) := by decide +kernel
theorem dX10_passed_88 : decode cX10_passed 88 = .ok (.aload_n 0, 1) := by decide +kernel
theorem dX10_passed_89 : decode cX10_passed 89 = .ok (.getfield 69, 3) := by decide +kernel
theorem dX10_passed_92 : decode cX10_passed 92 = .ok (.iload 4, 2) := by decide +kernel
theorem dX10_passed_94 : decode cX10_passed 94 = .ok (.iaload, 1) := by decide +kernel
theorem dX10_passed_95 : decode cX10_passed 95 = .ok (.invokevirtual 213, 3) := by decide +kernel
theorem dX10_passed_98 : decode cX10_passed 98 = .ok (.istore 6, 2) := by decide +kernel
theorem dX10_passed_100 : decode cX10_passed 100 = .ok (.aload_n 0, 1) := by decide +kernel
theorem dX10_passed_101 : decode cX10_passed 101 = .ok (.getfield 17, 3) := by decide +kernel
theorem dX10_passed_104 : decode cX10_passed 104 = .ok (.bipush 8, 2) := by decide +kernel
theorem dX10_passed_106 : decode cX10_passed 106 = .ok (.iload_n 1, 1) := by decide +kernel
theorem dX10_passed_107 : decode cX10_passed 107 = .ok (.imul, 1) := by decide +kernel
theorem dX10_passed_108 : decode cX10_passed 108 = .ok (.iload_n 2, 1) := by decide +kernel
theorem dX10_passed_109 : decode cX10_passed 109 = .ok (.iadd, 1) := by decide +kernel
theorem dX10_passed_110 : decode cX10_passed 110 = .ok (.dup2, 1) := by decide +kernel
theorem dX10_passed_111 : decode cX10_passed 111 = .ok (.iaload, 1) := by decide +kernel
theorem dX10_passed_112 : decode cX10_passed 112 = .ok (.iload_n 3, 1) := by decide +kernel
theorem dX10_passed_113 : decode cX10_passed 113 = .ok (.isub, 1) := by decide +kernel
theorem dX10_passed_114 : decode cX10_passed 114 = .ok (.iastore, 1) := by decide +kernel
theorem dX10_passed_115 : decode cX10_passed 115 = .ok (.iload 6, 2) := by decide +kernel
theorem dX10_passed_117 : decode cX10_passed 117 = .ok (.iload 5, 2) := by decide +kernel
theorem dX10_passed_119 : decode cX10_passed 119 = .ok (.isub, 1) := by decide +kernel
theorem dX10_passed_120 : decode cX10_passed 120 = .ok (.ireturn, 1) := by decide +kernel
theorem dX10_gain_0 : decode cX10_gain 0 = .ok (.aload_n 0, 1) := by decide +kernel
theorem dX10_gain_1 : decode cX10_gain 1 = .ok (.iconst 0, 1) := by decide +kernel
theorem dX10_gain_2 : decode cX10_gain 2 = .ok (.putfield 84, 3) := by decide +kernel
theorem dX10_gain_5 : decode cX10_gain 5 = .ok (.iload_n 2, 1) := by decide +kernel
theorem dX10_gain_6 : decode cX10_gain 6 = .ok (.iconst (-1), 1) := by decide +kernel
theorem dX10_gain_7 : decode cX10_gain 7 = .ok (.if_icmp .ne 14, 3) := by decide +kernel
theorem dX10_gain_10 : decode cX10_gain 10 = .ok (.aload_n 0, 1) := by decide +kernel
theorem dX10_gain_11 : decode cX10_gain 11 = .ok (.iload_n 1, 1) := by decide +kernel
theorem dX10_gain_12 : decode cX10_gain 12 = .ok (.invokevirtual 148, 3) := by decide +kernel
theorem dX10_gain_15 : decode cX10_gain 15 = .ok (.ifCond .ne 18, 3) := by decide +kernel
theorem dX10_gain_18 : decode cX10_gain 18 = .ok (.goto 12, 3) := by decide +kernel
theorem dX10_gain_21 : decode cX10_gain 21 = .ok (.aload_n 0, 1) := by decide +kernel
theorem dX10_gain_22 : decode cX10_gain 22 = .ok (.iload_n 1, 1) := by decide +kernel
theorem dX10_gain_23 : decode cX10_gain 23 = .ok (.iload_n 2, 1) := by decide +kernel
theorem dX10_gain_24 : decode cX10_gain 24 = .ok (.invokevirtual 154, 3) := by decide +kernel
theorem dX10_gain_27 : decode cX10_gain 27 = .ok (.ifCond .ne 6, 3) := by decide +kernel
theorem dX10_gain_30 : decode cX10_gain 30 = .ok (.ldc 226, 2) := by decide +kernel
theorem dX10_gain_32 : decode cX10_gain 32 = .ok (.ireturn, 1) := by decide +kernel
theorem dX10_gain_33 : decode cX10_gain 33 = .ok (.aload_n 0, 1) := by decide +kernel
theorem dX10_gain_34 : decode cX10_gain 34 = .ok (.iload_n 1, 1) := by decide +kernel
theorem dX10_gain_35 : decode cX10_gain 35 = .ok (.invokevirtual 223, 3) := by decide +kernel
theorem dX10_gain_38 : decode cX10_gain 38 = .ok (.aload_n 0, 1) := by decide +kernel
theorem dX10_gain_39 : decode cX10_gain 39 = .ok (.invokevirtual 227, 3) := by decide +kernel
theorem dX10_gain_42 : decode cX10_gain 42 = .ok (.iload_n 2, 1) := by decide +kernel
theorem dX10_gain_43 : decode cX10_gain 43 = .ok (.iconst (-1), 1) := by decide +kernel
theorem dX10_gain_44 : decode cX10_gain 44 = .ok (.if_icmp .ne 10, 3) := by decide +kernel
theorem dX10_gain_47 : decode cX10_gain 47 = .ok (.aload_n 0, 1) := by decide +kernel
theorem dX10_gain_48 : decode cX10_gain 48 = .ok (.invokevirtual 233, 3) := by decide +kernel
theorem dX10_gain_51 : decode cX10_gain 51 = .ok (.goto 8, 3) := by decide +kernel
theorem dX10_gain_54 : decode cX10_gain 54 = .ok (.aload_n 0, 1) := by decide +kernel
theorem dX10_gain_55 : decode cX10_gain 55 = .ok (.iload_n 2, 1) := by decide +kernel
theorem dX10_gain_56 : decode cX10_gain 56 = .ok (.invokevirtual 230, 3) := by decide +kernel
theorem dX10_gain_59 : decode cX10_gain 59 = .ok (.istore_n 3, 1) := by decide +kernel
theorem dX10_gain_60 : decode cX10_gain 60 = .ok (.aload_n 0, 1) := by decide +kernel
theorem dX10_gain_61 : decode cX10_gain 61 = .ok (.iload_n 1, 1) := by decide +kernel
theorem dX10_gain_62 : decode cX10_gain 62 = .ok (.aload_n 0, 1) := by decide +kernel
theorem dX10_gain_63 : decode cX10_gain 63 = .ok (.getfield 38, 3) := by decide +kernel
theorem dX10_gain_66 : decode cX10_gain 66 = .ok (.iload_n 1, 1) := by decide +kernel
theorem dX10_gain_67 : decode cX10_gain 67 = .ok (.iaload, 1) := by decide +kernel
theorem dX10_gain_68 : decode cX10_gain 68 = .ok (.bipush 41, 2) := by decide +kernel
theorem dX10_gain_70 : decode cX10_gain 70 = .ok (.iconst 0, 1) := by decide +kernel
theorem dX10_gain_71 : decode cX10_gain 71 = .ok (.aload_n 0, 1) := by decide +kernel
theorem dX10_gain_72 : decode cX10_gain 72 = .ok (.getfield 54, 3) := by decide +kernel
theorem dX10_gain_75 : decode cX10_gain 75 = .ok (.iload_n 1, 1) := by decide +kernel
theorem dX10_gain_76 : decode cX10_gain 76 = .ok (.baload, 1) := by decide +kernel
theorem dX10_gain_77 : decode cX10_gain 77 = .ok (.invokevirtual 191, 3) := by decide +kernel
theorem dX10_gain_80 : decode cX10_gain 80 = .ok (.aload_n 0, 1) := by decide +kernel
theorem dX10_gain_81 : decode cX10_gain 81 = .ok (.invokevirtual 227, 3) := by decide +kernel
theorem dX10_gain_84 : decode cX10_gain 84 = .ok (.iload_n 3, 1) := by decide +kernel
theorem dX10_gain_85 : decode cX10_gain 85 = .ok (.iload_n 2, 1) := by decide +kernel
theorem dX10_gain_86 : decode cX10_gain 86 = .ok (.iconst (-1), 1) := by decide +kernel
theorem dX10_gain_87 : decode cX10_gain 87 = .ok (.if_icmp .ne 10, 3) := by decide +kernel
theorem dX10_gain_90 : decode cX10_gain 90 = .ok (.aload_n 0, 1) := by decide +kernel
theorem dX10_gain_91 : decode cX10_gain 91 = .ok (.invokevirtual 233, 3) := by decide +kernel
theorem dX10_gain_94 : decode cX10_gain 94 = .ok (.goto 8, 3) := by decide +kernel
theorem dX10_gain_97 : decode cX10_gain 97 = .ok (.aload_n 0, 1) := by decide +kernel
theorem dX10_gain_98 : decode cX10_gain 98 = .ok (.iload_n 2, 1) := by decide +kernel
theorem dX10_gain_99 : decode cX10_gain 99 = .ok (.invokevirtual 230, 3) := by decide +kernel
theorem dX10_gain_102 : decode cX10_gain 102 = .ok (.isub, 1) := by decide +kernel
theorem dX10_gain_103 : decode cX10_gain 103 = .ok (.ireturn, 1) := by decide +kernel
theorem dX10_tell_0 : decode cX10_tell 0 = .ok (.aload_n 0, 1) := by decide +kernel
theorem dX10_tell_1 : decode cX10_tell 1 = .ok (.iconst 0, 1) := by decide +kernel
theorem dX10_tell_2 : decode cX10_tell 2 = .ok (.putfield 84, 3) := by decide +kernel
theorem dX10_tell_5 : decode cX10_tell 5 = .ok (.aload_n 0, 1) := by decide +kernel
theorem dX10_tell_6 : decode cX10_tell 6 = .ok (.iload_n 1, 1) := by decide +kernel
theorem dX10_tell_7 : decode cX10_tell 7 = .ok (.iload_n 2, 1) := by decide +kernel
theorem dX10_tell_8 : decode cX10_tell 8 = .ok (.invokevirtual 154, 3) := by decide +kernel
theorem dX10_tell_11 : decode cX10_tell 11 = .ok (.ifCond .eq 11, 3) := by decide +kernel
theorem dX10_tell_14 : decode cX10_tell 14 = .ok (.iload 4, 2) := by decide +kernel
theorem dX10_tell_16 : decode cX10_tell 16 = .ok (.invokestatic 172, 3) := by decide +kernel
theorem dX10_tell_19 : decode cX10_tell 19 = .ok (.ifCond .ne 5, 3) := by decide +kernel
theorem dX10_tell_22 : decode cX10_tell 22 = .ok (.iconst 0, 1) := by decide +kernel
theorem dX10_tell_23 : decode cX10_tell 23 = .ok (.ireturn, 1) := by decide +kernel
theorem dX10_tell_24 : decode cX10_tell 24 = .ok (.iload_n 3, 1) := by decide +kernel
theorem dX10_tell_25 : decode cX10_tell 25 = .ok (.ifCond .eq 19, 3) := by decide +kernel
theorem dX10_tell_28 : decode cX10_tell 28 = .ok (.aload_n 0, 1) := by decide +kernel
theorem dX10_tell_29 : decode cX10_tell 29 = .ok (.getfield 47, 3) := by decide +kernel
theorem dX10_tell_32 : decode cX10_tell 32 = .ok (.bipush 8, 2) := by decide +kernel
theorem dX10_tell_34 : decode cX10_tell 34 = .ok (.iload_n 1, 1) := by decide +kernel
theorem dX10_tell_35 : decode cX10_tell 35 = .ok (.imul, 1) := by decide +kernel
theorem dX10_tell_36 : decode cX10_tell 36 = .ok (.iload_n 2, 1) := by decide +kernel
theorem dX10_tell_37 : decode cX10_tell 37 = .ok (.iadd, 1) := by decide +kernel
theorem dX10_tell_38 : decode cX10_tell 38 = .ok (.iload 4, 2) := by decide +kernel
theorem dX10_tell_40 : decode cX10_tell 40 = .ok (.iastore, 1) := by decide +kernel
theorem dX10_tell_41 : decode cX10_tell 41 = .ok (.goto 16, 3) := by decide +kernel
theorem dX10_tell_44 : decode cX10_tell 44 = .ok (.aload_n 0, 1) := by decide +kernel
theorem dX10_tell_45 : decode cX10_tell 45 = .ok (.getfield 44, 3) := by decide +kernel
theorem dX10_tell_48 : decode cX10_tell 48 = .ok (.bipush 8, 2) := by decide +kernel
theorem dX10_tell_50 : decode cX10_tell 50 = .ok (.iload_n 1, 1) := by decide +kernel
theorem dX10_tell_51 : decode cX10_tell 51 = .ok (.imul, 1) := by decide +kernel
theorem dX10_tell_52 : decode cX10_tell 52 = .ok (.iload_n 2, 1) := by decide +kernel
theorem dX10_tell_53 : decode cX10_tell 53 = .ok (.iadd, 1) := by decide +kernel
theorem dX10_tell_54 : decode cX10_tell 54 = .ok (.iload 4, 2) := by decide +kernel
theorem dX10_tell_56 : decode cX10_tell 56 = .ok (.iastore, 1) := by decide +kernel
theorem dX10_tell_57 : decode cX10_tell 57 = .ok (.iconst 1, 1) := by decide +kernel
theorem dX10_tell_58 : decode cX10_tell 58 = .ok (.ireturn, 1) := by decide +kernel
theorem dX10_toldTake_0 : decode cX10_toldTake 0 = .ok (.aload_n 0, 1) := by decide +kernel
theorem dX10_toldTake_1 : decode cX10_toldTake 1 = .ok (.iload_n 1, 1) := by decide +kernel
theorem dX10_toldTake_2 : decode cX10_toldTake 2 = .ok (.iload_n 2, 1) := by decide +kernel
theorem dX10_toldTake_3 : decode cX10_toldTake 3 = .ok (.invokevirtual 165, 3) := by decide +kernel
theorem dX10_toldTake_6 : decode cX10_toldTake 6 = .ok (.ifCond .eq 21, 3) := by decide +kernel
theorem dX10_toldTake_9 : decode cX10_toldTake 9 = .ok (.aload_n 0, 1) := by decide +kernel
theorem dX10_toldTake_10 : decode cX10_toldTake 10 = .ok (.iload_n 1, 1) := by decide +kernel
theorem dX10_toldTake_11 : decode cX10_toldTake 11 = .ok (.iload_n 2, 1) := by decide +kernel
theorem dX10_toldTake_12 : decode cX10_toldTake 12 = .ok (.aload_n 0, 1) := by decide +kernel
theorem dX10_toldTake_13 : decode cX10_toldTake 13 = .ok (.getfield 47, 3) := by decide +kernel
theorem dX10_toldTake_16 : decode cX10_toldTake 16 = .ok (.bipush 8, 2) := by decide +kernel
theorem dX10_toldTake_18 : decode cX10_toldTake 18 = .ok (.iload_n 1, 1) := by decide +kernel
theorem dX10_toldTake_19 : decode cX10_toldTake 19 = .ok (.imul, 1) := by decide +kernel
theorem dX10_toldTake_20 : decode cX10_toldTake 20 = .ok (.iload_n 2, 1) := by decide +kernel
theorem dX10_toldTake_21 : decode cX10_toldTake 21 = .ok (.iadd, 1) := by decide +kernel
theorem dX10_toldTake_22 : decode cX10_toldTake 22 = .ok (.iaload, 1) := by decide +kernel
theorem dX10_toldTake_23 : decode cX10_toldTake 23 = .ok (.invokevirtual 168, 3) := by decide +kernel
theorem dX10_toldTake_26 : decode cX10_toldTake 26 = .ok (.ireturn, 1) := by decide +kernel
theorem dX10_toldTake_27 : decode cX10_toldTake 27 = .ok (.iconst 0, 1) := by decide +kernel
theorem dX10_toldTake_28 : decode cX10_toldTake 28 = .ok (.istore_n 3, 1) := by decide +kernel
theorem dX10_toldTake_29 : decode cX10_toldTake 29 = .ok (.iconst 0, 1) := by decide +kernel
theorem dX10_toldTake_30 : decode cX10_toldTake 30 = .ok (.istore 4, 2) := by decide +kernel
theorem dX10_toldTake_32 : decode cX10_toldTake 32 = .ok (.iload 4, 2) := by decide +kernel
theorem dX10_toldTake_34 : decode cX10_toldTake 34 = .ok (.aload_n 0, 1) := by decide +kernel
theorem dX10_toldTake_35 : decode cX10_toldTake 35 = .ok (.getfield 13, 3) := by decide +kernel
theorem dX10_toldTake_38 : decode cX10_toldTake 38 = .ok (.iload_n 1, 1) := by decide +kernel
theorem dX10_toldTake_39 : decode cX10_toldTake 39 = .ok (.iaload, 1) := by decide +kernel
theorem dX10_toldTake_40 : decode cX10_toldTake 40 = .ok (.if_icmp .ge 34, 3) := by decide +kernel
theorem dX10_toldTake_43 : decode cX10_toldTake 43 = .ok (.iload_n 3, 1) := by decide +kernel
theorem dX10_toldTake_44 : decode cX10_toldTake 44 = .ok (.aload_n 0, 1) := by decide +kernel
theorem dX10_toldTake_45 : decode cX10_toldTake 45 = .ok (.iload_n 1, 1) := by decide +kernel
theorem dX10_toldTake_46 : decode cX10_toldTake 46 = .ok (.iload 4, 2) := by decide +kernel
theorem dX10_toldTake_48 : decode cX10_toldTake 48 = .ok (.iload_n 2, 1) := by decide +kernel
theorem dX10_toldTake_49 : decode cX10_toldTake 49 = .ok (.invokevirtual 151, 3) := by decide +kernel
theorem dX10_toldTake_52 : decode cX10_toldTake 52 = .ok (.ifCond .eq 13, 3) := by decide +kernel
theorem dX10_toldTake_55 : decode cX10_toldTake 55 = .ok (.aload_n 0, 1) := by decide +kernel
theorem dX10_toldTake_56 : decode cX10_toldTake 56 = .ok (.iload_n 1, 1) := by decide +kernel
theorem dX10_toldTake_57 : decode cX10_toldTake 57 = .ok (.iload 4, 2) := by decide +kernel
theorem dX10_toldTake_59 : decode cX10_toldTake 59 = .ok (.invokevirtual 242, 3) := by decide +kernel
theorem dX10_toldTake_62 : decode cX10_toldTake 62 = .ok (.goto 4, 3) := by decide +kernel
theorem dX10_toldTake_65 : decode cX10_toldTake 65 = .ok (.iconst 0, 1) := by decide +kernel
theorem dX10_toldTake_66 : decode cX10_toldTake 66 = .ok (.iadd, 1) := by decide +kernel
theorem dX10_toldTake_67 : decode cX10_toldTake 67 = .ok (.istore_n 3, 1) := by decide +kernel
theorem dX10_toldTake_68 : decode cX10_toldTake 68 = .ok (.iinc 4 1, 3) := by decide +kernel
theorem dX10_toldTake_71 : decode cX10_toldTake 71 = .ok (.goto (-39), 3) := by decide +kernel
theorem dX10_toldTake_74 : decode cX10_toldTake 74 = .ok (.iload_n 3, 1) := by decide +kernel
theorem dX10_toldTake_75 : decode cX10_toldTake 75 = .ok (.ireturn, 1) := by decide +kernel
theorem dX10_toldUnit_0 : decode cX10_toldUnit 0 = .ok (.aload_n 0, 1) := by decide +kernel
theorem dX10_toldUnit_1 : decode cX10_toldUnit 1 = .ok (.getfield 44, 3) := by decide +kernel
theorem dX10_toldUnit_4 : decode cX10_toldUnit 4 = .ok (.bipush 8, 2) := by decide +kernel
theorem dX10_toldUnit_6 : decode cX10_toldUnit 6 = .ok (.iload_n 1, 1) := by decide +kernel
theorem dX10_toldUnit_7 : decode cX10_toldUnit 7 = .ok (.imul, 1) := by decide +kernel
theorem dX10_toldUnit_8 : decode cX10_toldUnit 8 = .ok (.iload_n 2, 1) := by decide +kernel
theorem dX10_toldUnit_9 : decode cX10_toldUnit 9 = .ok (.iadd, 1) := by decide +kernel
theorem dX10_toldUnit_10 : decode cX10_toldUnit 10 = .ok (.iaload, 1) := by decide +kernel
theorem dX10_toldUnit_11 : decode cX10_toldUnit 11 = .ok (.aload_n 0, 1) := by decide +kernel
theorem dX10_toldUnit_12 : decode cX10_toldUnit 12 = .ok (.iload_n 1, 1) := by decide +kernel
theorem dX10_toldUnit_13 : decode cX10_toldUnit 13 = .ok (.iload_n 2, 1) := by decide +kernel
theorem dX10_toldUnit_14 : decode cX10_toldUnit 14 = .ok (.invokevirtual 162, 3) := by decide +kernel
theorem dX10_toldUnit_17 : decode cX10_toldUnit 17 = .ok (.iadd, 1) := by decide +kernel
theorem dX10_toldUnit_18 : decode cX10_toldUnit 18 = .ok (.ireturn, 1) := by decide +kernel
theorem dX10_given_0 : decode cX10_given 0 = .ok (.aload_n 0, 1) := by decide +kernel
theorem dX10_given_1 : decode cX10_given 1 = .ok (.iconst 0, 1) := by decide +kernel
theorem dX10_given_2 : decode cX10_given 2 = .ok (.putfield 84, 3) := by decide +kernel
theorem dX10_given_5 : decode cX10_given 5 = .ok (.aload_n 0, 1) := by decide +kernel
theorem dX10_given_6 : decode cX10_given 6 = .ok (.iload_n 1, 1) := by decide +kernel
theorem dX10_given_7 : decode cX10_given 7 = .ok (.iload_n 2, 1) := by decide +kernel
theorem dX10_given_8 : decode cX10_given 8 = .ok (.invokevirtual 154, 3) := by decide +kernel
theorem dX10_given_11 : decode cX10_given 11 = .ok (.ifCond .ne 6, 3) := by decide +kernel
theorem dX10_given_14 : decode cX10_given 14 = .ok (.ldc 226, 2) := by decide +kernel
theorem dX10_given_16 : decode cX10_given 16 = .ok (.ireturn, 1) := by decide +kernel
theorem dX10_given_17 : decode cX10_given 17 = .ok (.aload_n 0, 1) := by decide +kernel
theorem dX10_given_18 : decode cX10_given 18 = .ok (.iload_n 1, 1) := by decide +kernel
theorem dX10_given_19 : decode cX10_given 19 = .ok (.iload_n 2, 1) := by decide +kernel
theorem dX10_given_20 : decode cX10_given 20 = .ok (.invokevirtual 245, 3) := by decide +kernel
theorem dX10_given_23 : decode cX10_given 23 = .ok (.istore_n 3, 1) := by decide +kernel
theorem dX10_given_24 : decode cX10_given 24 = .ok (.aload_n 0, 1) := by decide +kernel
theorem dX10_given_25 : decode cX10_given 25 = .ok (.iload_n 1, 1) := by decide +kernel
theorem dX10_given_26 : decode cX10_given 26 = .ok (.iload_n 2, 1) := by decide +kernel
theorem dX10_given_27 : decode cX10_given 27 = .ok (.invokevirtual 165, 3) := by decide +kernel
theorem dX10_given_30 : decode cX10_given 30 = .ok (.ifCond .eq 24, 3) := by decide +kernel
theorem dX10_given_33 : decode cX10_given 33 = .ok (.aload_n 0, 1) := by decide +kernel
theorem dX10_given_34 : decode cX10_given 34 = .ok (.getfield 47, 3) := by decide +kernel
theorem dX10_given_37 : decode cX10_given 37 = .ok (.bipush 8, 2) := by decide +kernel
theorem dX10_given_39 : decode cX10_given 39 = .ok (.iload_n 1, 1) := by decide +kernel
theorem dX10_given_40 : decode cX10_given 40 = .ok (.imul, 1) := by decide +kernel
theorem dX10_given_41 : decode cX10_given 41 = .ok (.iload_n 2, 1) := by decide +kernel
theorem dX10_given_42 : decode cX10_given 42 = .ok (.iadd, 1) := by decide +kernel
theorem dX10_given_43 : decode cX10_given 43 = .ok (.iaload, 1) := by decide +kernel
theorem dX10_given_44 : decode cX10_given 44 = .ok (.iload_n 3, 1) := by decide +kernel
theorem dX10_given_45 : decode cX10_given 45 = .ok (.isub, 1) := by decide +kernel
theorem dX10_given_46 : decode cX10_given 46 = .ok (.aload_n 0, 1) := by decide +kernel
theorem dX10_given_47 : decode cX10_given 47 = .ok (.iload_n 1, 1) := by decide +kernel
theorem dX10_given_48 : decode cX10_given 48 = .ok (.iload_n 2, 1) := by decide +kernel
theorem dX10_given_49 : decode cX10_given 49 = .ok (.invokevirtual 242, 3) := by decide +kernel
theorem dX10_given_52 : decode cX10_given 52 = .ok (.imul, 1) := by decide +kernel
theorem dX10_given_53 : decode cX10_given 53 = .ok (.ireturn, 1) := by decide +kernel
theorem dX10_given_54 : decode cX10_given 54 = .ok (.iconst 0, 1) := by decide +kernel
theorem dX10_given_55 : decode cX10_given 55 = .ok (.istore 4, 2) := by decide +kernel
theorem dX10_given_57 : decode cX10_given 57 = .ok (.iconst 0, 1) := by decide +kernel
theorem dX10_given_58 : decode cX10_given 58 = .ok (.istore 5, 2) := by decide +kernel
theorem dX10_given_60 : decode cX10_given 60 = .ok (.iload 5, 2) := by decide +kernel
theorem dX10_given_62 : decode cX10_given 62 = .ok (.aload_n 0, 1) := by decide +kernel
theorem dX10_given_63 : decode cX10_given 63 = .ok (.getfield 13, 3) := by decide +kernel
theorem dX10_given_66 : decode cX10_given 66 = .ok (.iload_n 1, 1) := by decide +kernel
theorem dX10_given_67 : decode cX10_given 67 = .ok (.iaload, 1) := by decide +kernel
theorem dX10_given_68 : decode cX10_given 68 = .ok (.if_icmp .ge 51, 3) := by decide +kernel
theorem dX10_given_71 : decode cX10_given 71 = .ok (.iload 4, 2) := by decide +kernel
theorem dX10_given_73 : decode cX10_given 73 = .ok (.aload_n 0, 1) := by decide +kernel
theorem dX10_given_74 : decode cX10_given 74 = .ok (.iload_n 1, 1) := by decide +kernel
theorem dX10_given_75 : decode cX10_given 75 = .ok (.iload 5, 2) := by decide +kernel
theorem dX10_given_77 : decode cX10_given 77 = .ok (.iload_n 2, 1) := by decide +kernel
theorem dX10_given_78 : decode cX10_given 78 = .ok (.invokevirtual 151, 3) := by decide +kernel
theorem dX10_given_81 : decode cX10_given 81 = .ok (.ifCond .eq 28, 3) := by decide +kernel
theorem dX10_given_84 : decode cX10_given 84 = .ok (.aload_n 0, 1) := by decide +kernel
theorem dX10_given_85 : decode cX10_given 85 = .ok (.getfield 44, 3) := by decide +kernel
theorem dX10_given_88 : decode cX10_given 88 = .ok (.bipush 8, 2) := by decide +kernel
theorem dX10_given_90 : decode cX10_given 90 = .ok (.iload_n 1, 1) := by decide +kernel
theorem dX10_given_91 : decode cX10_given 91 = .ok (.imul, 1) := by decide +kernel
theorem dX10_given_92 : decode cX10_given 92 = .ok (.iload 5, 2) := by decide +kernel
theorem dX10_given_94 : decode cX10_given 94 = .ok (.iadd, 1) := by decide +kernel
theorem dX10_given_95 : decode cX10_given 95 = .ok (.iaload, 1) := by decide +kernel
theorem dX10_given_96 : decode cX10_given 96 = .ok (.iload_n 3, 1) := by decide +kernel
theorem dX10_given_97 : decode cX10_given 97 = .ok (.isub, 1) := by decide +kernel
theorem dX10_given_98 : decode cX10_given 98 = .ok (.aload_n 0, 1) := by decide +kernel
theorem dX10_given_99 : decode cX10_given 99 = .ok (.iload_n 1, 1) := by decide +kernel
theorem dX10_given_100 : decode cX10_given 100 = .ok (.iload 5, 2) := by decide +kernel
theorem dX10_given_102 : decode cX10_given 102 = .ok (.invokevirtual 242, 3) := by decide +kernel
theorem dX10_given_105 : decode cX10_given 105 = .ok (.imul, 1) := by decide +kernel
theorem dX10_given_106 : decode cX10_given 106 = .ok (.goto 4, 3) := by decide +kernel
theorem dX10_given_109 : decode cX10_given 109 = .ok (.iconst 0, 1) := by decide +kernel
theorem dX10_given_110 : decode cX10_given 110 = .ok (.iadd, 1) := by decide +kernel
theorem dX10_given_111 : decode cX10_given 111 = .ok (.istore 4, 2) := by decide +kernel
theorem dX10_given_113 : decode cX10_given 113 = .ok (.iinc 5 1, 3) := by decide +kernel
theorem dX10_given_116 : decode cX10_given 116 = .ok (.goto (-56), 3) := by decide +kernel
theorem dX10_given_119 : decode cX10_given 119 = .ok (.iload 4, 2) := by decide +kernel
theorem dX10_given_121 : decode cX10_given 121 = .ok (.ireturn, 1) := by decide +kernel
theorem dX10_wouldElse_0 : decode cX10_wouldElse 0 = .ok (.aload_n 0, 1) := by decide +kernel
theorem dX10_wouldElse_1 : decode cX10_wouldElse 1 = .ok (.iload_n 1, 1) := by decide +kernel
theorem dX10_wouldElse_2 : decode cX10_wouldElse 2 = .ok (.iload_n 2, 1) := by decide +kernel
theorem dX10_wouldElse_3 : decode cX10_wouldElse 3 = .ok (.invokevirtual 245, 3) := by decide +kernel
theorem dX10_wouldElse_6 : decode cX10_wouldElse 6 = .ok (.istore_n 3, 1) := by decide +kernel
theorem dX10_wouldElse_7 : decode cX10_wouldElse 7 = .ok (.aload_n 0, 1) := by decide +kernel
theorem dX10_wouldElse_8 : decode cX10_wouldElse 8 = .ok (.iload_n 1, 1) := by decide +kernel
theorem dX10_wouldElse_9 : decode cX10_wouldElse 9 = .ok (.iload_n 2, 1) := by decide +kernel
theorem dX10_wouldElse_10 : decode cX10_wouldElse 10 = .ok (.invokevirtual 165, 3) := by decide +kernel
theorem dX10_wouldElse_13 : decode cX10_wouldElse 13 = .ok (.ifCond .eq 63, 3) := by decide +kernel
theorem dX10_wouldElse_16 : decode cX10_wouldElse 16 = .ok (.aload_n 0, 1) := by decide +kernel
theorem dX10_wouldElse_17 : decode cX10_wouldElse 17 = .ok (.getfield 47, 3) := by decide +kernel
theorem dX10_wouldElse_20 : decode cX10_wouldElse 20 = .ok (.bipush 8, 2) := by decide +kernel
theorem dX10_wouldElse_22 : decode cX10_wouldElse 22 = .ok (.iload_n 1, 1) := by decide +kernel
theorem dX10_wouldElse_23 : decode cX10_wouldElse 23 = .ok (.imul, 1) := by decide +kernel
theorem dX10_wouldElse_24 : decode cX10_wouldElse 24 = .ok (.iload_n 2, 1) := by decide +kernel
theorem dX10_wouldElse_25 : decode cX10_wouldElse 25 = .ok (.iadd, 1) := by decide +kernel
theorem dX10_wouldElse_26 : decode cX10_wouldElse 26 = .ok (.iaload, 1) := by decide +kernel
theorem dX10_wouldElse_27 : decode cX10_wouldElse 27 = .ok (.iload_n 3, 1) := by decide +kernel
theorem dX10_wouldElse_28 : decode cX10_wouldElse 28 = .ok (.isub, 1) := by decide +kernel
theorem dX10_wouldElse_29 : decode cX10_wouldElse 29 = .ok (.aload_n 0, 1) := by decide +kernel
theorem dX10_wouldElse_30 : decode cX10_wouldElse 30 = .ok (.iload_n 1, 1) := by decide +kernel
theorem dX10_wouldElse_31 : decode cX10_wouldElse 31 = .ok (.iload_n 2, 1) := by decide +kernel
theorem dX10_wouldElse_32 : decode cX10_wouldElse 32 = .ok (.invokevirtual 242, 3) := by decide +kernel
theorem dX10_wouldElse_35 : decode cX10_wouldElse 35 = .ok (.imul, 1) := by decide +kernel
theorem dX10_wouldElse_36 : decode cX10_wouldElse 36 = .ok (.istore 4, 2) := by decide +kernel
theorem dX10_wouldElse_38 : decode cX10_wouldElse 38 = .ok (.iconst 0, 1) := by decide +kernel
theorem dX10_wouldElse_39 : decode cX10_wouldElse 39 = .ok (.istore 5, 2) := by decide +kernel
theorem dX10_wouldElse_41 : decode cX10_wouldElse 41 = .ok (.iload 5, 2) := by decide +kernel
theorem dX10_wouldElse_43 : decode cX10_wouldElse 43 = .ok (.bipush 41, 2) := by decide +kernel
theorem dX10_wouldElse_45 : decode cX10_wouldElse 45 = .ok (.if_icmp .gt 29, 3) := by decide +kernel
theorem dX10_wouldElse_48 : decode cX10_wouldElse 48 = .ok (.iload 5, 2) := by decide +kernel
theorem dX10_wouldElse_50 : decode cX10_wouldElse 50 = .ok (.iload_n 3, 1) := by decide +kernel
theorem dX10_wouldElse_51 : decode cX10_wouldElse 51 = .ok (.isub, 1) := by decide +kernel
theorem dX10_wouldElse_52 : decode cX10_wouldElse 52 = .ok (.aload_n 0, 1) := by decide +kernel
theorem dX10_wouldElse_53 : decode cX10_wouldElse 53 = .ok (.iload_n 1, 1) := by decide +kernel
theorem dX10_wouldElse_54 : decode cX10_wouldElse 54 = .ok (.iload_n 2, 1) := by decide +kernel
theorem dX10_wouldElse_55 : decode cX10_wouldElse 55 = .ok (.iload 5, 2) := by decide +kernel
theorem dX10_wouldElse_57 : decode cX10_wouldElse 57 = .ok (.invokevirtual 168, 3) := by decide +kernel
theorem dX10_wouldElse_60 : decode cX10_wouldElse 60 = .ok (.imul, 1) := by decide +kernel
theorem dX10_wouldElse_61 : decode cX10_wouldElse 61 = .ok (.iload 4, 2) := by decide +kernel
theorem dX10_wouldElse_63 : decode cX10_wouldElse 63 = .ok (.if_icmp .le 5, 3) := by decide +kernel
theorem dX10_wouldElse_66 : decode cX10_wouldElse 66 = .ok (.iconst 1, 1) := by decide +kernel
theorem dX10_wouldElse_67 : decode cX10_wouldElse 67 = .ok (.ireturn, 1) := by decide +kernel
theorem dX10_wouldElse_68 : decode cX10_wouldElse 68 = .ok (.iinc 5 1, 3) := by decide +kernel
theorem dX10_wouldElse_71 : decode cX10_wouldElse 71 = .ok (.goto (-30), 3) := by decide +kernel
theorem dX10_wouldElse_74 : decode cX10_wouldElse 74 = .ok (.iconst 0, 1) := by decide +kernel
theorem dX10_wouldElse_75 : decode cX10_wouldElse 75 = .ok (.ireturn, 1) := by decide +kernel
theorem dX10_wouldElse_76 : decode cX10_wouldElse 76 = .ok (.iconst 0, 1) := by decide +kernel
theorem dX10_wouldElse_77 : decode cX10_wouldElse 77 = .ok (.istore 4, 2) := by decide +kernel
theorem dX10_wouldElse_79 : decode cX10_wouldElse 79 = .ok (.iload 4, 2) := by decide +kernel
theorem dX10_wouldElse_81 : decode cX10_wouldElse 81 = .ok (.aload_n 0, 1) := by decide +kernel
theorem dX10_wouldElse_82 : decode cX10_wouldElse 82 = .ok (.getfield 13, 3) := by decide +kernel
theorem dX10_wouldElse_85 : decode cX10_wouldElse 85 = .ok (.iload_n 1, 1) := by decide +kernel
theorem dX10_wouldElse_86 : decode cX10_wouldElse 86 = .ok (.iaload, 1) := by decide +kernel
theorem dX10_wouldElse_87 : decode cX10_wouldElse 87 = .ok (.if_icmp .ge 108, 3) := by decide +kernel
theorem dX10_wouldElse_90 : decode cX10_wouldElse 90 = .ok (.aload_n 0, 1) := by decide +kernel
theorem dX10_wouldElse_91 : decode cX10_wouldElse 91 = .ok (.iload_n 1, 1) := by decide +kernel
theorem dX10_wouldElse_92 : decode cX10_wouldElse 92 = .ok (.iload 4, 2) := by decide +kernel
theorem dX10_wouldElse_94 : decode cX10_wouldElse 94 = .ok (.iload_n 2, 1) := by decide +kernel
theorem dX10_wouldElse_95 : decode cX10_wouldElse 95 = .ok (.invokevirtual 151, 3) := by decide +kernel
theorem dX10_wouldElse_98 : decode cX10_wouldElse 98 = .ok (.ifCond .ne 6, 3) := by decide +kernel
theorem dX10_wouldElse_101 : decode cX10_wouldElse 101 = .ok (.goto 88, 3) := by decide +kernel
theorem dX10_wouldElse_104 : decode cX10_wouldElse 104 = .ok (.aload_n 0, 1) := by decide +kernel
theorem dX10_wouldElse_105 : decode cX10_wouldElse 105 = .ok (.getfield 44, 3) := by decide +kernel
theorem dX10_wouldElse_108 : decode cX10_wouldElse 108 = .ok (.bipush 8, 2) := by decide +kernel
theorem dX10_wouldElse_110 : decode cX10_wouldElse 110 = .ok (.iload_n 1, 1) := by decide +kernel
theorem dX10_wouldElse_111 : decode cX10_wouldElse 111 = .ok (.imul, 1) := by decide +kernel
theorem dX10_wouldElse_112 : decode cX10_wouldElse 112 = .ok (.iload 4, 2) := by decide +kernel
theorem dX10_wouldElse_114 : decode cX10_wouldElse 114 = .ok (.iadd, 1) := by decide +kernel
theorem dX10_wouldElse_115 : decode cX10_wouldElse 115 = .ok (.iaload, 1) := by decide +kernel
theorem dX10_wouldElse_116 : decode cX10_wouldElse 116 = .ok (.iload_n 3, 1) := by decide +kernel
theorem dX10_wouldElse_117 : decode cX10_wouldElse 117 = .ok (.isub, 1) := by decide +kernel
theorem dX10_wouldElse_118 : decode cX10_wouldElse 118 = .ok (.aload_n 0, 1) := by decide +kernel
theorem dX10_wouldElse_119 : decode cX10_wouldElse 119 = .ok (.iload_n 1, 1) := by decide +kernel
theorem dX10_wouldElse_120 : decode cX10_wouldElse 120 = .ok (.iload 4, 2) := by decide +kernel
theorem dX10_wouldElse_122 : decode cX10_wouldElse 122 = .ok (.invokevirtual 242, 3) := by decide +kernel
theorem dX10_wouldElse_125 : decode cX10_wouldElse 125 = .ok (.imul, 1) := by decide +kernel
theorem dX10_wouldElse_126 : decode cX10_wouldElse 126 = .ok (.istore 5, 2) := by decide +kernel
theorem dX10_wouldElse_128 : decode cX10_wouldElse 128 = .ok (.iconst 0, 1) := by decide +kernel
theorem dX10_wouldElse_129 : decode cX10_wouldElse 129 = .ok (.istore 6, 2) := by decide +kernel
theorem dX10_wouldElse_131 : decode cX10_wouldElse 131 = .ok (.iload 6, 2) := by decide +kernel
theorem dX10_wouldElse_133 : decode cX10_wouldElse 133 = .ok (.bipush 41, 2) := by decide +kernel
theorem dX10_wouldElse_135 : decode cX10_wouldElse 135 = .ok (.if_icmp .gt 54, 3) := by decide +kernel
theorem dX10_wouldElse_138 : decode cX10_wouldElse 138 = .ok (.iload 6, 2) := by decide +kernel
theorem dX10_wouldElse_140 : decode cX10_wouldElse 140 = .ok (.aload_n 0, 1) := by decide +kernel
theorem dX10_wouldElse_141 : decode cX10_wouldElse 141 = .ok (.getfield 44, 3) := by decide +kernel
theorem dX10_wouldElse_144 : decode cX10_wouldElse 144 = .ok (.bipush 8, 2) := by decide +kernel
theorem dX10_wouldElse_146 : decode cX10_wouldElse 146 = .ok (.iload_n 1, 1) := by decide +kernel
theorem dX10_wouldElse_147 : decode cX10_wouldElse 147 = .ok (.imul, 1) := by decide +kernel
theorem dX10_wouldElse_148 : decode cX10_wouldElse 148 = .ok (.iload 4, 2) := by decide +kernel
theorem dX10_wouldElse_150 : decode cX10_wouldElse 150 = .ok (.iadd, 1) := by decide +kernel
theorem dX10_wouldElse_151 : decode cX10_wouldElse 151 = .ok (.iaload, 1) := by decide +kernel
theorem dX10_wouldElse_152 : decode cX10_wouldElse 152 = .ok (.if_icmp .eq 31, 3) := by decide +kernel
theorem dX10_wouldElse_155 : decode cX10_wouldElse 155 = .ok (.iload 6, 2) := by decide +kernel
theorem dX10_wouldElse_157 : decode cX10_wouldElse 157 = .ok (.iload_n 3, 1) := by decide +kernel
theorem dX10_wouldElse_158 : decode cX10_wouldElse 158 = .ok (.isub, 1) := by decide +kernel
theorem dX10_wouldElse_159 : decode cX10_wouldElse 159 = .ok (.aload_n 0, 1) := by decide +kernel
theorem dX10_wouldElse_160 : decode cX10_wouldElse 160 = .ok (.iload 4, 2) := by decide +kernel
theorem dX10_wouldElse_162 : decode cX10_wouldElse 162 = .ok (.iload 6, 2) := by decide +kernel
theorem dX10_wouldElse_164 : decode cX10_wouldElse 164 = .ok (.aload_n 0, 1) := by decide +kernel
theorem dX10_wouldElse_165 : decode cX10_wouldElse 165 = .ok (.iload_n 1, 1) := by decide +kernel
theorem dX10_wouldElse_166 : decode cX10_wouldElse 166 = .ok (.iload 4, 2) := by decide +kernel
theorem dX10_wouldElse_168 : decode cX10_wouldElse 168 = .ok (.invokevirtual 162, 3) := by decide +kernel
theorem dX10_wouldElse_171 : decode cX10_wouldElse 171 = .ok (.iadd, 1) := by decide +kernel
theorem dX10_wouldElse_172 : decode cX10_wouldElse 172 = .ok (.invokevirtual 204, 3) := by decide +kernel
theorem dX10_wouldElse_175 : decode cX10_wouldElse 175 = .ok (.imul, 1) := by decide +kernel
theorem dX10_wouldElse_176 : decode cX10_wouldElse 176 = .ok (.iload 5, 2) := by decide +kernel
theorem dX10_wouldElse_178 : decode cX10_wouldElse 178 = .ok (.if_icmp .le 5, 3) := by decide +kernel
theorem dX10_wouldElse_181 : decode cX10_wouldElse 181 = .ok (.iconst 1, 1) := by decide +kernel
theorem dX10_wouldElse_182 : decode cX10_wouldElse 182 = .ok (.ireturn, 1) := by decide +kernel
theorem dX10_wouldElse_183 : decode cX10_wouldElse 183 = .ok (.iinc 6 1, 3) := by decide +kernel
theorem dX10_wouldElse_186 : decode cX10_wouldElse 186 = .ok (.goto (-55), 3) := by decide +kernel
theorem dX10_wouldElse_189 : decode cX10_wouldElse 189 = .ok (.iinc 4 1, 3) := by decide +kernel
theorem dX10_wouldElse_192 : decode cX10_wouldElse 192 = .ok (.goto (-113), 3) := by decide +kernel
theorem dX10_wouldElse_195 : decode cX10_wouldElse 195 = .ok (.iconst 0, 1) := by decide +kernel
theorem dX10_wouldElse_196 : decode cX10_wouldElse 196 = .ok (.ireturn, 1) := by decide +kernel
theorem dX10_doers_0 : decode cX10_doers 0 = .ok (.aload_n 0, 1) := by decide +kernel
theorem dX10_doers_1 : decode cX10_doers 1 = .ok (.iconst 0, 1) := by decide +kernel
theorem dX10_doers_2 : decode cX10_doers 2 = .ok (.putfield 84, 3) := by decide +kernel
theorem dX10_doers_5 : decode cX10_doers 5 = .ok (.aload_n 0, 1) := by decide +kernel
theorem dX10_doers_6 : decode cX10_doers 6 = .ok (.iload_n 1, 1) := by decide +kernel
theorem dX10_doers_7 : decode cX10_doers 7 = .ok (.invokevirtual 148, 3) := by decide +kernel
theorem dX10_doers_10 : decode cX10_doers 10 = .ok (.ifCond .ne 5, 3) := by decide +kernel
theorem dX10_doers_13 : decode cX10_doers 13 = .ok (.iconst (-1), 1) := by decide +kernel
theorem dX10_doers_14 : decode cX10_doers 14 = .ok (.ireturn, 1) := by decide +kernel
theorem dX10_doers_15 : decode cX10_doers 15 = .ok (.aload_n 0, 1) := by decide +kernel
theorem dX10_doers_16 : decode cX10_doers 16 = .ok (.iload_n 1, 1) := by decide +kernel
theorem dX10_doers_17 : decode cX10_doers 17 = .ok (.iconst 0, 1) := by decide +kernel
theorem dX10_doers_18 : decode cX10_doers 18 = .ok (.bipush 41, 2) := by decide +kernel
theorem dX10_doers_20 : decode cX10_doers 20 = .ok (.iconst 0, 1) := by decide +kernel
theorem dX10_doers_21 : decode cX10_doers 21 = .ok (.iconst 0, 1) := by decide +kernel
theorem dX10_doers_22 : decode cX10_doers 22 = .ok (.invokevirtual 191, 3) := by decide +kernel
theorem dX10_doers_25 : decode cX10_doers 25 = .ok (.iconst 0, 1) := by decide +kernel
theorem dX10_doers_26 : decode cX10_doers 26 = .ok (.istore_n 2, 1) := by decide +kernel
theorem dX10_doers_27 : decode cX10_doers 27 = .ok (.iconst 0, 1) := by decide +kernel
theorem dX10_doers_28 : decode cX10_doers 28 = .ok (.istore_n 3, 1) := by decide +kernel
theorem dX10_doers_29 : decode cX10_doers 29 = .ok (.iload_n 3, 1) := by decide +kernel
theorem dX10_doers_30 : decode cX10_doers 30 = .ok (.aload_n 0, 1) := by decide +kernel
theorem dX10_doers_31 : decode cX10_doers 31 = .ok (.getfield 13, 3) := by decide +kernel
theorem dX10_doers_34 : decode cX10_doers 34 = .ok (.iload_n 1, 1) := by decide +kernel
theorem dX10_doers_35 : decode cX10_doers 35 = .ok (.iaload, 1) := by decide +kernel
theorem dX10_doers_36 : decode cX10_doers 36 = .ok (.if_icmp .ge 28, 3) := by decide +kernel
theorem dX10_doers_39 : decode cX10_doers 39 = .ok (.iload_n 2, 1) := by decide +kernel
theorem dX10_doers_40 : decode cX10_doers 40 = .ok (.aload_n 0, 1) := by decide +kernel
theorem dX10_doers_41 : decode cX10_doers 41 = .ok (.iload_n 1, 1) := by decide +kernel
theorem dX10_doers_42 : decode cX10_doers 42 = .ok (.iload_n 3, 1) := by decide +kernel
theorem dX10_doers_43 : decode cX10_doers 43 = .ok (.invokevirtual 248, 3) := by decide +kernel
theorem dX10_doers_46 : decode cX10_doers 46 = .ok (.ifCond .eq 9, 3) := by decide +kernel
theorem dX10_doers_49 : decode cX10_doers 49 = .ok (.iconst 1, 1) := by decide +kernel
theorem dX10_doers_50 : decode cX10_doers 50 = .ok (.iload_n 3, 1) := by decide +kernel
theorem dX10_doers_51 : decode cX10_doers 51 = .ok (.ishl, 1) := by decide +kernel
theorem dX10_doers_52 : decode cX10_doers 52 = .ok (.goto 4, 3) := by decide +kernel
theorem dX10_doers_55 : decode cX10_doers 55 = .ok (.iconst 0, 1) := by decide +kernel
theorem dX10_doers_56 : decode cX10_doers 56 = .ok (.ior, 1) := by decide +kernel
theorem dX10_doers_57 : decode cX10_doers 57 = .ok (.istore_n 2, 1) := by decide +kernel
theorem dX10_doers_58 : decode cX10_doers 58 = .ok (.iinc 3 1, 3) := by decide +kernel
theorem dX10_doers_61 : decode cX10_doers 61 = .ok (.goto (-32), 3) := by decide +kernel
theorem dX10_doers_64 : decode cX10_doers 64 = .ok (.iload_n 2, 1) := by decide +kernel
theorem dX10_doers_65 : decode cX10_doers 65 = .ok (.ireturn, 1) := by decide +kernel
theorem dX10_isBehind_0 : decode cX10_isBehind 0 = .ok (.iload_n 2, 1) := by decide +kernel
theorem dX10_isBehind_1 : decode cX10_isBehind 1 = .ok (.istore 4, 2) := by decide +kernel
theorem dX10_isBehind_3 : decode cX10_isBehind 3 = .ok (.iload 4, 2) := by decide +kernel
theorem dX10_isBehind_5 : decode cX10_isBehind 5 = .ok (.iconst (-1), 1) := by decide +kernel
theorem dX10_isBehind_6 : decode cX10_isBehind 6 = .ok (.if_icmp .eq 28, 3) := by decide +kernel
theorem dX10_isBehind_9 : decode cX10_isBehind 9 = .ok (.iload 4, 2) := by decide +kernel
theorem dX10_isBehind_11 : decode cX10_isBehind 11 = .ok (.iload_n 3, 1) := by decide +kernel
theorem dX10_isBehind_12 : decode cX10_isBehind 12 = .ok (.if_icmp .ne 5, 3) := by decide +kernel
theorem dX10_isBehind_15 : decode cX10_isBehind 15 = .ok (.iconst 1, 1) := by decide +kernel
theorem dX10_isBehind_16 : decode cX10_isBehind 16 = .ok (.ireturn, 1) := by decide +kernel
theorem dX10_isBehind_17 : decode cX10_isBehind 17 = .ok (.aload_n 0, 1) := by decide +kernel
theorem dX10_isBehind_18 : decode cX10_isBehind 18 = .ok (.getfield 20, 3) := by decide +kernel
theorem dX10_isBehind_21 : decode cX10_isBehind 21 = .ok (.bipush 8, 2) := by decide +kernel
theorem dX10_isBehind_23 : decode cX10_isBehind 23 = .ok (.iload_n 1, 1) := by decide +kernel
theorem dX10_isBehind_24 : decode cX10_isBehind 24 = .ok (.imul, 1) := by decide +kernel
theorem dX10_isBehind_25 : decode cX10_isBehind 25 = .ok (.iload 4, 2) := by decide +kernel
theorem dX10_isBehind_27 : decode cX10_isBehind 27 = .ok (.iadd, 1) := by decide +kernel
theorem dX10_isBehind_28 : decode cX10_isBehind 28 = .ok (.iaload, 1) := by decide +kernel
theorem dX10_isBehind_29 : decode cX10_isBehind 29 = .ok (.istore 4, 2) := by decide +kernel
theorem dX10_isBehind_31 : decode cX10_isBehind 31 = .ok (.goto (-28), 3) := by decide +kernel
theorem dX10_isBehind_34 : decode cX10_isBehind 34 = .ok (.iconst 0, 1) := by decide +kernel
theorem dX10_isBehind_35 : decode cX10_isBehind 35 = .ok (.ireturn, 1) := by decide +kernel
theorem dX10_chainCost_0 : decode cX10_chainCost 0 = .ok (.iconst 0, 1) := by decide +kernel
theorem dX10_chainCost_1 : decode cX10_chainCost 1 = .ok (.istore_n 3, 1) := by decide +kernel
theorem dX10_chainCost_2 : decode cX10_chainCost 2 = .ok (.iload_n 2, 1) := by decide +kernel
theorem dX10_chainCost_3 : decode cX10_chainCost 3 = .ok (.istore 4, 2) := by decide +kernel
theorem dX10_chainCost_5 : decode cX10_chainCost 5 = .ok (.iload 4, 2) := by decide +kernel
theorem dX10_chainCost_7 : decode cX10_chainCost 7 = .ok (.iconst (-1), 1) := by decide +kernel
theorem dX10_chainCost_8 : decode cX10_chainCost 8 = .ok (.if_icmp .eq 30, 3) := by decide +kernel
theorem dX10_chainCost_11 : decode cX10_chainCost 11 = .ok (.iload_n 3, 1) := by decide +kernel
theorem dX10_chainCost_12 : decode cX10_chainCost 12 = .ok (.aload_n 0, 1) := by decide +kernel
theorem dX10_chainCost_13 : decode cX10_chainCost 13 = .ok (.iload_n 1, 1) := by decide +kernel
theorem dX10_chainCost_14 : decode cX10_chainCost 14 = .ok (.iload 4, 2) := by decide +kernel
theorem dX10_chainCost_16 : decode cX10_chainCost 16 = .ok (.invokevirtual 162, 3) := by decide +kernel
theorem dX10_chainCost_19 : decode cX10_chainCost 19 = .ok (.iadd, 1) := by decide +kernel
theorem dX10_chainCost_20 : decode cX10_chainCost 20 = .ok (.istore_n 3, 1) := by decide +kernel
theorem dX10_chainCost_21 : decode cX10_chainCost 21 = .ok (.aload_n 0, 1) := by decide +kernel
theorem dX10_chainCost_22 : decode cX10_chainCost 22 = .ok (.getfield 20, 3) := by decide +kernel
theorem dX10_chainCost_25 : decode cX10_chainCost 25 = .ok (.bipush 8, 2) := by decide +kernel
theorem dX10_chainCost_27 : decode cX10_chainCost 27 = .ok (.iload_n 1, 1) := by decide +kernel
theorem dX10_chainCost_28 : decode cX10_chainCost 28 = .ok (.imul, 1) := by decide +kernel
theorem dX10_chainCost_29 : decode cX10_chainCost 29 = .ok (.iload 4, 2) := by decide +kernel
theorem dX10_chainCost_31 : decode cX10_chainCost 31 = .ok (.iadd, 1) := by decide +kernel
theorem dX10_chainCost_32 : decode cX10_chainCost 32 = .ok (.iaload, 1) := by decide +kernel
theorem dX10_chainCost_33 : decode cX10_chainCost 33 = .ok (.istore 4, 2) := by decide +kernel
theorem dX10_chainCost_35 : decode cX10_chainCost 35 = .ok (.goto (-30), 3) := by decide +kernel
theorem dX10_chainCost_38 : decode cX10_chainCost 38 = .ok (.iload_n 3, 1) := by decide +kernel
theorem dX10_chainCost_39 : decode cX10_chainCost 39 = .ok (.ireturn, 1) := by decide +kernel
theorem dX10_freely_0 : decode cX10_freely 0 = .ok (.aload_n 0, 1) := by decide +kernel
theorem dX10_freely_1 : decode cX10_freely 1 = .ok (.iload_n 1, 1) := by decide +kernel
theorem dX10_freely_2 : decode cX10_freely 2 = .ok (.iload_n 2, 1) := by decide +kernel
theorem dX10_freely_3 : decode cX10_freely 3 = .ok (.invokevirtual 251, 3) := by decide +kernel
theorem dX10_freely_6 : decode cX10_freely 6 = .ok (.istore_n 3, 1) := by decide +kernel
theorem dX10_freely_7 : decode cX10_freely 7 = .ok (.aload_n 0, 1) := by decide +kernel
theorem dX10_freely_8 : decode cX10_freely 8 = .ok (.iload_n 2, 1) := by decide +kernel
theorem dX10_freely_9 : decode cX10_freely 9 = .ok (.iload_n 3, 1) := by decide +kernel
theorem dX10_freely_10 : decode cX10_freely 10 = .ok (.invokevirtual 213, 3) := by decide +kernel
theorem dX10_freely_13 : decode cX10_freely 13 = .ok (.istore 4, 2) := by decide +kernel
theorem dX10_freely_15 : decode cX10_freely 15 = .ok (.iload 4, 2) := by decide +kernel
theorem dX10_freely_17 : decode cX10_freely 17 = .ok (.iload_n 3, 1) := by decide +kernel
theorem dX10_freely_18 : decode cX10_freely 18 = .ok (.isub, 1) := by decide +kernel
theorem dX10_freely_19 : decode cX10_freely 19 = .ok (.aload_n 0, 1) := by decide +kernel
theorem dX10_freely_20 : decode cX10_freely 20 = .ok (.iload_n 1, 1) := by decide +kernel
theorem dX10_freely_21 : decode cX10_freely 21 = .ok (.iload_n 2, 1) := by decide +kernel
theorem dX10_freely_22 : decode cX10_freely 22 = .ok (.iload 4, 2) := by decide +kernel
theorem dX10_freely_24 : decode cX10_freely 24 = .ok (.invokevirtual 168, 3) := by decide +kernel
theorem dX10_freely_27 : decode cX10_freely 27 = .ok (.imul, 1) := by decide +kernel
theorem dX10_freely_28 : decode cX10_freely 28 = .ok (.ireturn, 1) := by decide +kernel
theorem dX10_fee_0 : decode cX10_fee 0 = .ok (.aload_n 0, 1) := by decide +kernel
theorem dX10_fee_1 : decode cX10_fee 1 = .ok (.iconst 0, 1) := by decide +kernel
theorem dX10_fee_2 : decode cX10_fee 2 = .ok (.putfield 84, 3) := by decide +kernel
theorem dX10_fee_5 : decode cX10_fee 5 = .ok (.aload_n 0, 1) := by decide +kernel
theorem dX10_fee_6 : decode cX10_fee 6 = .ok (.iload_n 1, 1) := by decide +kernel
theorem dX10_fee_7 : decode cX10_fee 7 = .ok (.iload_n 2, 1) := by decide +kernel
theorem dX10_fee_8 : decode cX10_fee 8 = .ok (.invokevirtual 154, 3) := by decide +kernel
theorem dX10_fee_11 : decode cX10_fee 11 = .ok (.ifCond .eq 12, 3) := by decide +kernel
theorem dX10_fee_14 : decode cX10_fee 14 = .ok (.iload_n 3, 1) := by decide +kernel
theorem dX10_fee_15 : decode cX10_fee 15 = .ok (.iconst 0, 1) := by decide +kernel
theorem dX10_fee_16 : decode cX10_fee 16 = .ok (.iconst 1, 1) := by decide +kernel
theorem dX10_fee_17 : decode cX10_fee 17 = .ok (.invokestatic 123, 3) := by decide +kernel
theorem dX10_fee_20 : decode cX10_fee 20 = .ok (.ifCond .ne 6, 3) := by decide +kernel
theorem dX10_fee_23 : decode cX10_fee 23 = .ok (.ldc 226, 2) := by decide +kernel
theorem dX10_fee_25 : decode cX10_fee 25 = .ok (.ireturn, 1) := by decide +kernel
theorem dX10_fee_26 : decode cX10_fee 26 = .ok (.aload_n 0, 1) := by decide +kernel
theorem dX10_fee_27 : decode cX10_fee 27 = .ok (.iload_n 1, 1) := by decide +kernel
theorem dX10_fee_28 : decode cX10_fee 28 = .ok (.iconst 0, 1) := by decide +kernel
theorem dX10_fee_29 : decode cX10_fee 29 = .ok (.bipush 41, 2) := by decide +kernel
theorem dX10_fee_31 : decode cX10_fee 31 = .ok (.iconst 0, 1) := by decide +kernel
theorem dX10_fee_32 : decode cX10_fee 32 = .ok (.iconst 0, 1) := by decide +kernel
theorem dX10_fee_33 : decode cX10_fee 33 = .ok (.invokevirtual 191, 3) := by decide +kernel
theorem dX10_fee_36 : decode cX10_fee 36 = .ok (.iconst 0, 1) := by decide +kernel
theorem dX10_fee_37 : decode cX10_fee 37 = .ok (.istore 4, 2) := by decide +kernel
theorem dX10_fee_39 : decode cX10_fee 39 = .ok (.iconst 0, 1) := by decide +kernel
theorem dX10_fee_40 : decode cX10_fee 40 = .ok (.istore 5, 2) := by decide +kernel
theorem dX10_fee_42 : decode cX10_fee 42 = .ok (.iload 5, 2) := by decide +kernel
theorem dX10_fee_44 : decode cX10_fee 44 = .ok (.aload_n 0, 1) := by decide +kernel
theorem dX10_fee_45 : decode cX10_fee 45 = .ok (.getfield 13, 3) := by decide +kernel
theorem dX10_fee_48 : decode cX10_fee 48 = .ok (.iload_n 1, 1) := by decide +kernel
theorem dX10_fee_49 : decode cX10_fee 49 = .ok (.iaload, 1) := by decide +kernel
theorem dX10_fee_50 : decode cX10_fee 50 = .ok (.if_icmp .ge 70, 3) := by decide +kernel
theorem dX10_fee_53 : decode cX10_fee 53 = .ok (.iload_n 3, 1) := by decide +kernel
theorem dX10_fee_54 : decode cX10_fee 54 = .ok (.ifCond .ne 17, 3) := by decide +kernel
theorem dX10_fee_57 : decode cX10_fee 57 = .ok (.aload_n 0, 1) := by decide +kernel
theorem dX10_fee_58 : decode cX10_fee 58 = .ok (.iload_n 1, 1) := by decide +kernel
theorem dX10_fee_59 : decode cX10_fee 59 = .ok (.iload 5, 2) := by decide +kernel
theorem dX10_fee_61 : decode cX10_fee 61 = .ok (.iload_n 2, 1) := by decide +kernel
theorem dX10_fee_62 : decode cX10_fee 62 = .ok (.invokevirtual 254, 3) := by decide +kernel
theorem dX10_fee_65 : decode cX10_fee 65 = .ok (.ifCond .ne 6, 3) := by decide +kernel
theorem dX10_fee_68 : decode cX10_fee 68 = .ok (.goto 46, 3) := by decide +kernel
theorem dX10_fee_71 : decode cX10_fee 71 = .ok (.iload 4, 2) := by decide +kernel
theorem dX10_fee_73 : decode cX10_fee 73 = .ok (.aload_n 0, 1) := by decide +kernel
theorem dX10_fee_74 : decode cX10_fee 74 = .ok (.getfield 23, 3) := by decide +kernel
theorem dX10_fee_77 : decode cX10_fee 77 = .ok (.bipush 8, 2) := by decide +kernel
theorem dX10_fee_79 : decode cX10_fee 79 = .ok (.iload_n 1, 1) := by decide +kernel
theorem dX10_fee_80 : decode cX10_fee 80 = .ok (.imul, 1) := by decide +kernel
theorem dX10_fee_81 : decode cX10_fee 81 = .ok (.iload 5, 2) := by decide +kernel
theorem dX10_fee_83 : decode cX10_fee 83 = .ok (.iadd, 1) := by decide +kernel
theorem dX10_fee_84 : decode cX10_fee 84 = .ok (.iaload, 1) := by decide +kernel
theorem dX10_fee_85 : decode cX10_fee 85 = .ok (.isub, 1) := by decide +kernel
theorem dX10_fee_86 : decode cX10_fee 86 = .ok (.istore 4, 2) := by decide +kernel
theorem dX10_fee_88 : decode cX10_fee 88 = .ok (.iload 4, 2) := by decide +kernel
theorem dX10_fee_90 : decode cX10_fee 90 = .ok (.aload_n 0, 1) := by decide +kernel
theorem dX10_fee_91 : decode cX10_fee 91 = .ok (.iload_n 1, 1) := by decide +kernel
theorem dX10_fee_92 : decode cX10_fee 92 = .ok (.iload 5, 2) := by decide +kernel
theorem dX10_fee_94 : decode cX10_fee 94 = .ok (.invokevirtual 165, 3) := by decide +kernel
theorem dX10_fee_97 : decode cX10_fee 97 = .ok (.ifCond .eq 13, 3) := by decide +kernel
theorem dX10_fee_100 : decode cX10_fee 100 = .ok (.aload_n 0, 1) := by decide +kernel
theorem dX10_fee_101 : decode cX10_fee 101 = .ok (.iload_n 1, 1) := by decide +kernel
theorem dX10_fee_102 : decode cX10_fee 102 = .ok (.iload 5, 2) := by decide +kernel
theorem dX10_fee_104 : decode cX10_fee 104 = .ok (.invokevirtual 257, 3) := by decide +kernel
theorem dX10_fee_107 : decode cX10_fee 107 = .ok (.goto 4, 3) := by decide +kernel
theorem dX10_fee_110 : decode cX10_fee 110 = .ok (.iconst 0, 1) := by decide +kernel
theorem dX10_fee_111 : decode cX10_fee 111 = .ok (.iadd, 1) := by decide +kernel
theorem dX10_fee_112 : decode cX10_fee 112 = .ok (.istore 4, 2) := by decide +kernel
theorem dX10_fee_114 : decode cX10_fee 114 = .ok (.iinc 5 1, 3) := by decide +kernel
theorem dX10_fee_117 : decode cX10_fee 117 = .ok (.goto (-75), 3) := by decide +kernel
theorem dX10_fee_120 : decode cX10_fee 120 = .ok (.iload_n 3, 1) := by decide +kernel
theorem dX10_fee_121 : decode cX10_fee 121 = .ok (.ifCond .ne 8, 3) := by decide +kernel
theorem dX10_fee_124 : decode cX10_fee 124 = .ok (.iload 4, 2) := by decide +kernel
theorem dX10_fee_126 : decode cX10_fee 126 = .ok (.goto 13, 3) := by decide +kernel
theorem dX10_fee_129 : decode cX10_fee 129 = .ok (.iload 4, 2) := by decide +kernel
theorem dX10_fee_131 : decode cX10_fee 131 = .ok (.ifCond .lt 7, 3) := by decide +kernel
theorem dX10_fee_134 : decode cX10_fee 134 = .ok (.iconst 1, 1) := by decide +kernel
theorem dX10_fee_135 : decode cX10_fee 135 = .ok (.goto 4, 3) := by decide +kernel
theorem dX10_fee_138 : decode cX10_fee 138 = .ok (.iconst 0, 1) := by decide +kernel
theorem dX10_fee_139 : decode cX10_fee 139 = .ok (.ireturn, 1) := by decide +kernel
theorem dX10_bracket_0 : decode cX10_bracket 0 = .ok (.bipush 100, 2) := by decide +kernel
theorem dX10_bracket_2 : decode cX10_bracket 2 = .ok (.iload 4, 2) := by decide +kernel
theorem dX10_bracket_4 : decode cX10_bracket 4 = .ok (.isub, 1) := by decide +kernel
theorem dX10_bracket_5 : decode cX10_bracket 5 = .ok (.iload 5, 2) := by decide +kernel
theorem dX10_bracket_7 : decode cX10_bracket 7 = .ok (.imul, 1) := by decide +kernel
theorem dX10_bracket_8 : decode cX10_bracket 8 = .ok (.bipush 100, 2) := by decide +kernel
theorem dX10_bracket_10 : decode cX10_bracket 10 = .ok (.iload_n 3, 1) := by decide +kernel
theorem dX10_bracket_11 : decode cX10_bracket 11 = .ok (.aload_n 0, 1) := by decide +kernel
theorem dX10_bracket_12 : decode cX10_bracket 12 = .ok (.iload_n 1, 1) := by decide +kernel
theorem dX10_bracket_13 : decode cX10_bracket 13 = .ok (.iload_n 2, 1) := by decide +kernel
theorem dX10_bracket_14 : decode cX10_bracket 14 = .ok (.invokevirtual 162, 3) := by decide +kernel
theorem dX10_bracket_17 : decode cX10_bracket 17 = .ok (.iadd, 1) := by decide +kernel
theorem dX10_bracket_18 : decode cX10_bracket 18 = .ok (.imul, 1) := by decide +kernel
theorem dX10_bracket_19 : decode cX10_bracket 19 = .ok (.isub, 1) := by decide +kernel
theorem dX10_bracket_20 : decode cX10_bracket 20 = .ok (.aload_n 0, 1) := by decide +kernel
theorem dX10_bracket_21 : decode cX10_bracket 21 = .ok (.iload_n 1, 1) := by decide +kernel
theorem dX10_bracket_22 : decode cX10_bracket 22 = .ok (.iload_n 2, 1) := by decide +kernel
theorem dX10_bracket_23 : decode cX10_bracket 23 = .ok (.iload 5, 2) := by decide +kernel
theorem dX10_bracket_25 : decode cX10_bracket 25 = .ok (.invokevirtual 168, 3) := by decide +kernel
theorem dX10_bracket_28 : decode cX10_bracket 28 = .ok (.imul, 1) := by decide +kernel
theorem dX10_bracket_29 : decode cX10_bracket 29 = .ok (.ireturn, 1) := by decide +kernel
theorem dX10_isPair_0 : decode cX10_isPair 0 = .ok (.aload_n 0, 1) := by decide +kernel
theorem dX10_isPair_1 : decode cX10_isPair 1 = .ok (.iload_n 1, 1) := by decide +kernel
theorem dX10_isPair_2 : decode cX10_isPair 2 = .ok (.iload_n 2, 1) := by decide +kernel
theorem dX10_isPair_3 : decode cX10_isPair 3 = .ok (.iload_n 3, 1) := by decide +kernel
theorem dX10_isPair_4 : decode cX10_isPair 4 = .ok (.iload 4, 2) := by decide +kernel
theorem dX10_isPair_6 : decode cX10_isPair 6 = .ok (.iload 5, 2) := by decide +kernel
theorem dX10_isPair_8 : decode cX10_isPair 8 = .ok (.invokevirtual 260, 3) := by decide +kernel
theorem dX10_isPair_11 : decode cX10_isPair 11 = .ok (.istore 6, 2) := by decide +kernel
theorem dX10_isPair_13 : decode cX10_isPair 13 = .ok (.iconst 0, 1) := by decide +kernel
theorem dX10_isPair_14 : decode cX10_isPair 14 = .ok (.istore 7, 2) := by decide +kernel
theorem dX10_isPair_16 : decode cX10_isPair 16 = .ok (.iload 7, 2) := by decide +kernel
theorem dX10_isPair_18 : decode cX10_isPair 18 = .ok (.bipush 41, 2) := by decide +kernel
theorem dX10_isPair_20 : decode cX10_isPair 20 = .ok (.if_icmp .gt 45, 3) := by decide +kernel
theorem dX10_isPair_23 : decode cX10_isPair 23 = .ok (.aload_n 0, 1) := by decide +kernel
theorem dX10_isPair_24 : decode cX10_isPair 24 = .ok (.iload_n 1, 1) := by decide +kernel
theorem dX10_isPair_25 : decode cX10_isPair 25 = .ok (.iload_n 2, 1) := by decide +kernel
theorem dX10_isPair_26 : decode cX10_isPair 26 = .ok (.iload_n 3, 1) := by decide +kernel
theorem dX10_isPair_27 : decode cX10_isPair 27 = .ok (.iload 4, 2) := by decide +kernel
theorem dX10_isPair_29 : decode cX10_isPair 29 = .ok (.iload 7, 2) := by decide +kernel
theorem dX10_isPair_31 : decode cX10_isPair 31 = .ok (.invokevirtual 260, 3) := by decide +kernel
theorem dX10_isPair_34 : decode cX10_isPair 34 = .ok (.istore 8, 2) := by decide +kernel
theorem dX10_isPair_36 : decode cX10_isPair 36 = .ok (.iload 8, 2) := by decide +kernel
theorem dX10_isPair_38 : decode cX10_isPair 38 = .ok (.iload 6, 2) := by decide +kernel
theorem dX10_isPair_40 : decode cX10_isPair 40 = .ok (.if_icmp .gt 17, 3) := by decide +kernel
theorem dX10_isPair_43 : decode cX10_isPair 43 = .ok (.iload 8, 2) := by decide +kernel
theorem dX10_isPair_45 : decode cX10_isPair 45 = .ok (.iload 6, 2) := by decide +kernel
theorem dX10_isPair_47 : decode cX10_isPair 47 = .ok (.if_icmp .ne 12, 3) := by decide +kernel
theorem dX10_isPair_50 : decode cX10_isPair 50 = .ok (.iload 7, 2) := by decide +kernel
theorem dX10_isPair_52 : decode cX10_isPair 52 = .ok (.iload 5, 2) := by decide +kernel
theorem dX10_isPair_54 : decode cX10_isPair 54 = .ok (.if_icmp .ge 5, 3) := by decide +kernel
theorem dX10_isPair_57 : decode cX10_isPair 57 = .ok (.iconst 0, 1) := by decide +kernel
theorem dX10_isPair_58 : decode cX10_isPair 58 = .ok (.ireturn, 1) := by decide +kernel
theorem dX10_isPair_59 : decode cX10_isPair 59 = .ok (.iinc 7 1, 3) := by decide +kernel
theorem dX10_isPair_62 : decode cX10_isPair 62 = .ok (.goto (-46), 3) := by decide +kernel
theorem dX10_isPair_65 : decode cX10_isPair 65 = .ok (.iconst 1, 1) := by decide +kernel
theorem dX10_isPair_66 : decode cX10_isPair 66 = .ok (.ireturn, 1) := by decide +kernel
theorem dX10_layPairs_0 : decode cX10_layPairs 0 = .ok (.aload_n 0, 1) := by decide +kernel
theorem dX10_layPairs_1 : decode cX10_layPairs 1 = .ok (.iload_n 1, 1) := by decide +kernel
theorem dX10_layPairs_2 : decode cX10_layPairs 2 = .ok (.iconst 0, 1) := by decide +kernel
theorem dX10_layPairs_3 : decode cX10_layPairs 3 = .ok (.bipush 41, 2) := by decide +kernel
theorem dX10_layPairs_5 : decode cX10_layPairs 5 = .ok (.iconst 0, 1) := by decide +kernel
theorem dX10_layPairs_6 : decode cX10_layPairs 6 = .ok (.iconst 0, 1) := by decide +kernel
theorem dX10_layPairs_7 : decode cX10_layPairs 7 = .ok (.invokevirtual 191, 3) := by decide +kernel
theorem dX10_layPairs_10 : decode cX10_layPairs 10 = .ok (.aload_n 0, 1) := by decide +kernel
theorem dX10_layPairs_11 : decode cX10_layPairs 11 = .ok (.iload_n 2, 1) := by decide +kernel
theorem dX10_layPairs_12 : decode cX10_layPairs 12 = .ok (.aload_n 0, 1) := by decide +kernel
theorem dX10_layPairs_13 : decode cX10_layPairs 13 = .ok (.iload_n 1, 1) := by decide +kernel
theorem dX10_layPairs_14 : decode cX10_layPairs 14 = .ok (.iload_n 2, 1) := by decide +kernel
theorem dX10_layPairs_15 : decode cX10_layPairs 15 = .ok (.invokevirtual 251, 3) := by decide +kernel
theorem dX10_layPairs_18 : decode cX10_layPairs 18 = .ok (.invokevirtual 213, 3) := by decide +kernel
theorem dX10_layPairs_21 : decode cX10_layPairs 21 = .ok (.istore 4, 2) := by decide +kernel
theorem dX10_layPairs_23 : decode cX10_layPairs 23 = .ok (.aload_n 0, 1) := by decide +kernel
theorem dX10_layPairs_24 : decode cX10_layPairs 24 = .ok (.iconst 0, 1) := by decide +kernel
theorem dX10_layPairs_25 : decode cX10_layPairs 25 = .ok (.putfield 264, 3) := by decide +kernel
theorem dX10_layPairs_28 : decode cX10_layPairs 28 = .ok (.aload_n 0, 1) := by decide +kernel
theorem dX10_layPairs_29 : decode cX10_layPairs 29 = .ok (.iconst (-1), 1) := by decide +kernel
theorem dX10_layPairs_30 : decode cX10_layPairs 30 = .ok (.putfield 267, 3) := by decide +kernel
theorem dX10_layPairs_33 : decode cX10_layPairs 33 = .ok (.iconst 0, 1) := by decide +kernel
theorem dX10_layPairs_34 : decode cX10_layPairs 34 = .ok (.istore 5, 2) := by decide +kernel
theorem dX10_layPairs_36 : decode cX10_layPairs 36 = .ok (.iload 5, 2) := by decide +kernel
theorem dX10_layPairs_38 : decode cX10_layPairs 38 = .ok (.bipush 40, 2) := by decide +kernel
theorem dX10_layPairs_40 : decode cX10_layPairs 40 = .ok (.if_icmp .gt 73, 3) := by decide +kernel
theorem dX10_layPairs_43 : decode cX10_layPairs 43 = .ok (.iconst 0, 1) := by decide +kernel
theorem dX10_layPairs_44 : decode cX10_layPairs 44 = .ok (.istore 6, 2) := by decide +kernel
theorem dX10_layPairs_46 : decode cX10_layPairs 46 = .ok (.iload 6, 2) := by decide +kernel
theorem dX10_layPairs_48 : decode cX10_layPairs 48 = .ok (.bipush 99, 2) := by decide +kernel
theorem dX10_layPairs_50 : decode cX10_layPairs 50 = .ok (.if_icmp .gt 57, 3) := by decide +kernel
theorem dX10_layPairs_53 : decode cX10_layPairs 53 = .ok (.aload_n 0, 1) := by decide +kernel
theorem dX10_layPairs_54 : decode cX10_layPairs 54 = .ok (.iload_n 1, 1) := by decide +kernel
theorem dX10_layPairs_55 : decode cX10_layPairs 55 = .ok (.iload_n 2, 1) := by decide +kernel
theorem dX10_layPairs_56 : decode cX10_layPairs 56 = .ok (.iload 5, 2) := by decide +kernel
theorem dX10_layPairs_58 : decode cX10_layPairs 58 = .ok (.iload 6, 2) := by decide +kernel
theorem dX10_layPairs_60 : decode cX10_layPairs 60 = .ok (.iload 4, 2) := by decide +kernel
theorem dX10_layPairs_62 : decode cX10_layPairs 62 = .ok (.invokevirtual 270, 3) := by decide +kernel
theorem dX10_layPairs_65 : decode cX10_layPairs 65 = .ok (.ifCond .ne 6, 3) := by decide +kernel
theorem dX10_layPairs_68 : decode cX10_layPairs 68 = .ok (.goto 33, 3) := by decide +kernel
theorem dX10_layPairs_71 : decode cX10_layPairs 71 = .ok (.aload_n 0, 1) := by decide +kernel
theorem dX10_layPairs_72 : decode cX10_layPairs 72 = .ok (.getfield 264, 3) := by decide +kernel
theorem dX10_layPairs_75 : decode cX10_layPairs 75 = .ok (.iload_n 3, 1) := by decide +kernel
theorem dX10_layPairs_76 : decode cX10_layPairs 76 = .ok (.if_icmp .ne 15, 3) := by decide +kernel
theorem dX10_layPairs_79 : decode cX10_layPairs 79 = .ok (.aload_n 0, 1) := by decide +kernel
theorem dX10_layPairs_80 : decode cX10_layPairs 80 = .ok (.bipush 100, 2) := by decide +kernel
theorem dX10_layPairs_82 : decode cX10_layPairs 82 = .ok (.iload 5, 2) := by decide +kernel
theorem dX10_layPairs_84 : decode cX10_layPairs 84 = .ok (.imul, 1) := by decide +kernel
theorem dX10_layPairs_85 : decode cX10_layPairs 85 = .ok (.iload 6, 2) := by decide +kernel
theorem dX10_layPairs_87 : decode cX10_layPairs 87 = .ok (.iadd, 1) := by decide +kernel
theorem dX10_layPairs_88 : decode cX10_layPairs 88 = .ok (.putfield 267, 3) := by decide +kernel
theorem dX10_layPairs_91 : decode cX10_layPairs 91 = .ok (.aload_n 0, 1) := by decide +kernel
theorem dX10_layPairs_92 : decode cX10_layPairs 92 = .ok (.dup, 1) := by decide +kernel
theorem dX10_layPairs_93 : decode cX10_layPairs 93 = .ok (.getfield 264, 3) := by decide +kernel
theorem dX10_layPairs_96 : decode cX10_layPairs 96 = .ok (.iconst 1, 1) := by decide +kernel
theorem dX10_layPairs_97 : decode cX10_layPairs 97 = .ok (.iadd, 1) := by decide +kernel
theorem dX10_layPairs_98 : decode cX10_layPairs 98 = .ok (.putfield 264, 3) := by decide +kernel
theorem dX10_layPairs_101 : decode cX10_layPairs 101 = .ok (.iinc 6 1, 3) := by decide +kernel
theorem dX10_layPairs_104 : decode cX10_layPairs 104 = .ok (.goto (-58), 3) := by decide +kernel
theorem dX10_layPairs_107 : decode cX10_layPairs 107 = .ok (.iinc 5 1, 3) := by decide +kernel
theorem dX10_layPairs_110 : decode cX10_layPairs 110 = .ok (.goto (-74), 3) := by decide +kernel
theorem dX10_layPairs_113 : decode cX10_layPairs 113 = .ok (.return_, 1) := by decide +kernel
theorem dX10_isPartner_0 : decode cX10_isPartner 0 = .ok (.aload_n 0, 1) := by decide +kernel
theorem dX10_isPartner_1 : decode cX10_isPartner 1 = .ok (.iload_n 1, 1) := by decide +kernel
theorem dX10_isPartner_2 : decode cX10_isPartner 2 = .ok (.iload_n 2, 1) := by decide +kernel
theorem dX10_isPartner_3 : decode cX10_isPartner 3 = .ok (.invokevirtual 165, 3) := by decide +kernel
theorem dX10_isPartner_6 : decode cX10_isPartner 6 = .ok (.ifCond .eq 16, 3) := by decide +kernel
theorem dX10_isPartner_9 : decode cX10_isPartner 9 = .ok (.aload_n 0, 1) := by decide +kernel
theorem dX10_isPartner_10 : decode cX10_isPartner 10 = .ok (.iload_n 1, 1) := by decide +kernel
theorem dX10_isPartner_11 : decode cX10_isPartner 11 = .ok (.iload_n 2, 1) := by decide +kernel
theorem dX10_isPartner_12 : decode cX10_isPartner 12 = .ok (.invokevirtual 274, 3) := by decide +kernel
theorem dX10_isPartner_15 : decode cX10_isPartner 15 = .ok (.ifCond .ne 7, 3) := by decide +kernel
theorem dX10_isPartner_18 : decode cX10_isPartner 18 = .ok (.iconst 1, 1) := by decide +kernel
theorem dX10_isPartner_19 : decode cX10_isPartner 19 = .ok (.goto 4, 3) := by decide +kernel
theorem dX10_isPartner_22 : decode cX10_isPartner 22 = .ok (.iconst 0, 1) := by decide +kernel
theorem dX10_isPartner_23 : decode cX10_isPartner 23 = .ok (.ireturn, 1) := by decide +kernel
theorem dX10_parts_0 : decode cX10_parts 0 = .ok (.aload_n 0, 1) := by decide +kernel
theorem dX10_parts_1 : decode cX10_parts 1 = .ok (.iconst 0, 1) := by decide +kernel
theorem dX10_parts_2 : decode cX10_parts 2 = .ok (.putfield 84, 3) := by decide +kernel
theorem dX10_parts_5 : decode cX10_parts 5 = .ok (.aload_n 0, 1) := by decide +kernel
theorem dX10_parts_6 : decode cX10_parts 6 = .ok (.iload_n 1, 1) := by decide +kernel
theorem dX10_parts_7 : decode cX10_parts 7 = .ok (.iload_n 2, 1) := by decide +kernel
theorem dX10_parts_8 : decode cX10_parts 8 = .ok (.invokevirtual 277, 3) := by decide +kernel
theorem dX10_parts_11 : decode cX10_parts 11 = .ok (.ifCond .ne 5, 3) := by decide +kernel
theorem dX10_parts_14 : decode cX10_parts 14 = .ok (.iconst (-1), 1) := by decide +kernel
theorem dX10_parts_15 : decode cX10_parts 15 = .ok (.ireturn, 1) := by decide +kernel
theorem dX10_parts_16 : decode cX10_parts 16 = .ok (.aload_n 0, 1) := by decide +kernel
theorem dX10_parts_17 : decode cX10_parts 17 = .ok (.iload_n 1, 1) := by decide +kernel
theorem dX10_parts_18 : decode cX10_parts 18 = .ok (.iload_n 2, 1) := by decide +kernel
theorem dX10_parts_19 : decode cX10_parts 19 = .ok (.iload_n 3, 1) := by decide +kernel
theorem dX10_parts_20 : decode cX10_parts 20 = .ok (.invokevirtual 280, 3) := by decide +kernel
theorem dX10_parts_23 : decode cX10_parts 23 = .ok (.iload_n 3, 1) := by decide +kernel
theorem dX10_parts_24 : decode cX10_parts 24 = .ok (.iconst (-1), 1) := by decide +kernel
theorem dX10_parts_25 : decode cX10_parts 25 = .ok (.if_icmp .ne 10, 3) := by decide +kernel
theorem dX10_parts_28 : decode cX10_parts 28 = .ok (.aload_n 0, 1) := by decide +kernel
theorem dX10_parts_29 : decode cX10_parts 29 = .ok (.getfield 264, 3) := by decide +kernel
theorem dX10_parts_32 : decode cX10_parts 32 = .ok (.goto 7, 3) := by decide +kernel
theorem dX10_parts_35 : decode cX10_parts 35 = .ok (.aload_n 0, 1) := by decide +kernel
theorem dX10_parts_36 : decode cX10_parts 36 = .ok (.getfield 267, 3) := by decide +kernel
theorem dX10_parts_39 : decode cX10_parts 39 = .ok (.ireturn, 1) := by decide +kernel
theorem dX10_takings_0 : decode cX10_takings 0 = .ok (.aload_n 0, 1) := by decide +kernel
theorem dX10_takings_1 : decode cX10_takings 1 = .ok (.iconst 0, 1) := by decide +kernel
theorem dX10_takings_2 : decode cX10_takings 2 = .ok (.putfield 84, 3) := by decide +kernel
theorem dX10_takings_5 : decode cX10_takings 5 = .ok (.aload_n 0, 1) := by decide +kernel
theorem dX10_takings_6 : decode cX10_takings 6 = .ok (.iload_n 1, 1) := by decide +kernel
theorem dX10_takings_7 : decode cX10_takings 7 = .ok (.iload_n 2, 1) := by decide +kernel
theorem dX10_takings_8 : decode cX10_takings 8 = .ok (.invokevirtual 277, 3) := by decide +kernel
theorem dX10_takings_11 : decode cX10_takings 11 = .ok (.ifCond .ne 6, 3) := by decide +kernel
theorem dX10_takings_14 : decode cX10_takings 14 = .ok (.ldc 226, 2) := by decide +kernel
theorem dX10_takings_16 : decode cX10_takings 16 = .ok (.ireturn, 1) := by decide +kernel
theorem dX10_takings_17 : decode cX10_takings 17 = .ok (.aload_n 0, 1) := by decide +kernel
theorem dX10_takings_18 : decode cX10_takings 18 = .ok (.iload_n 1, 1) := by decide +kernel
theorem dX10_takings_19 : decode cX10_takings 19 = .ok (.iload_n 2, 1) := by decide +kernel
theorem dX10_takings_20 : decode cX10_takings 20 = .ok (.iload_n 3, 1) := by decide +kernel
theorem dX10_takings_21 : decode cX10_takings 21 = .ok (.invokevirtual 280, 3) := by decide +kernel
theorem dX10_takings_24 : decode cX10_takings 24 = .ok (.aload_n 0, 1) := by decide +kernel
theorem dX10_takings_25 : decode cX10_takings 25 = .ok (.getfield 267, 3) := by decide +kernel
theorem dX10_takings_28 : decode cX10_takings 28 = .ok (.iconst (-1), 1) := by decide +kernel
theorem dX10_takings_29 : decode cX10_takings 29 = .ok (.if_icmp .ne 6, 3) := by decide +kernel
theorem dX10_takings_32 : decode cX10_takings 32 = .ok (.ldc 226, 2) := by decide +kernel
theorem dX10_takings_34 : decode cX10_takings 34 = .ok (.ireturn, 1) := by decide +kernel
theorem dX10_takings_35 : decode cX10_takings 35 = .ok (.aload_n 0, 1) := by decide +kernel
theorem dX10_takings_36 : decode cX10_takings 36 = .ok (.iload_n 2, 1) := by decide +kernel
theorem dX10_takings_37 : decode cX10_takings 37 = .ok (.aload_n 0, 1) := by decide +kernel
theorem dX10_takings_38 : decode cX10_takings 38 = .ok (.iload_n 1, 1) := by decide +kernel
theorem dX10_takings_39 : decode cX10_takings 39 = .ok (.iload_n 2, 1) := by decide +kernel
theorem dX10_takings_40 : decode cX10_takings 40 = .ok (.invokevirtual 251, 3) := by decide +kernel
theorem dX10_takings_43 : decode cX10_takings 43 = .ok (.invokevirtual 213, 3) := by decide +kernel
theorem dX10_takings_46 : decode cX10_takings 46 = .ok (.istore 4, 2) := by decide +kernel
theorem dX10_takings_48 : decode cX10_takings 48 = .ok (.ldc2_w 284, 3) := by decide +kernel
theorem dX10_takings_51 : decode cX10_takings 51 = .ok (.iload 4, 2) := by decide +kernel
theorem dX10_takings_53 : decode cX10_takings 53 = .ok (.aload_n 0, 1) := by decide +kernel
theorem dX10_takings_54 : decode cX10_takings 54 = .ok (.iload_n 1, 1) := by decide +kernel
theorem dX10_takings_55 : decode cX10_takings 55 = .ok (.iload_n 2, 1) := by decide +kernel
theorem dX10_takings_56 : decode cX10_takings 56 = .ok (.invokevirtual 251, 3) := by decide +kernel
theorem dX10_takings_59 : decode cX10_takings 59 = .ok (.isub, 1) := by decide +kernel
theorem dX10_takings_60 : decode cX10_takings 60 = .ok (.i2l, 1) := by decide +kernel
theorem dX10_takings_61 : decode cX10_takings 61 = .ok (.lmul, 1) := by decide +kernel
theorem dX10_takings_62 : decode cX10_takings 62 = .ok (.aload_n 0, 1) := by decide +kernel
theorem dX10_takings_63 : decode cX10_takings 63 = .ok (.iload_n 1, 1) := by decide +kernel
theorem dX10_takings_64 : decode cX10_takings 64 = .ok (.iload_n 2, 1) := by decide +kernel
theorem dX10_takings_65 : decode cX10_takings 65 = .ok (.iload 4, 2) := by decide +kernel
theorem dX10_takings_67 : decode cX10_takings 67 = .ok (.invokevirtual 168, 3) := by decide +kernel
theorem dX10_takings_70 : decode cX10_takings 70 = .ok (.i2l, 1) := by decide +kernel
theorem dX10_takings_71 : decode cX10_takings 71 = .ok (.lmul, 1) := by decide +kernel
theorem dX10_takings_72 : decode cX10_takings 72 = .ok (.lstore 5, 2) := by decide +kernel
theorem dX10_takings_74 : decode cX10_takings 74 = .ok (.lload 5, 2) := by decide +kernel
theorem dX10_takings_76 : decode cX10_takings 76 = .ok (.lconst 0, 1) := by decide +kernel
theorem dX10_takings_77 : decode cX10_takings 77 = .ok (.lcmp, 1) := by decide +kernel
theorem dX10_takings_78 : decode cX10_takings 78 = .ok (.ifCond .ne 7, 3) := by decide +kernel
theorem dX10_takings_81 : decode cX10_takings 81 = .ok (.iconst 0, 1) := by decide +kernel
theorem dX10_takings_82 : decode cX10_takings 82 = .ok (.goto 34, 3) := by decide +kernel
theorem dX10_takings_85 : decode cX10_takings 85 = .ok (.ldc2_w 286, 3) := by decide +kernel
theorem dX10_takings_88 : decode cX10_takings 88 = .ok (.aload_n 0, 1) := by decide +kernel
theorem dX10_takings_89 : decode cX10_takings 89 = .ok (.iload_n 1, 1) := by decide +kernel
theorem dX10_takings_90 : decode cX10_takings 90 = .ok (.iload_n 2, 1) := by decide +kernel
theorem dX10_takings_91 : decode cX10_takings 91 = .ok (.aload_n 0, 1) := by decide +kernel
theorem dX10_takings_92 : decode cX10_takings 92 = .ok (.getfield 267, 3) := by decide +kernel
theorem dX10_takings_95 : decode cX10_takings 95 = .ok (.bipush 100, 2) := by decide +kernel
theorem dX10_takings_97 : decode cX10_takings 97 = .ok (.idiv, 1) := by decide +kernel
theorem dX10_takings_98 : decode cX10_takings 98 = .ok (.aload_n 0, 1) := by decide +kernel
theorem dX10_takings_99 : decode cX10_takings 99 = .ok (.getfield 267, 3) := by decide +kernel
theorem dX10_takings_102 : decode cX10_takings 102 = .ok (.bipush 100, 2) := by decide +kernel
theorem dX10_takings_104 : decode cX10_takings 104 = .ok (.irem, 1) := by decide +kernel
theorem dX10_takings_105 : decode cX10_takings 105 = .ok (.iload 4, 2) := by decide +kernel
theorem dX10_takings_107 : decode cX10_takings 107 = .ok (.invokevirtual 260, 3) := by decide +kernel
theorem dX10_takings_110 : decode cX10_takings 110 = .ok (.i2l, 1) := by decide +kernel
theorem dX10_takings_111 : decode cX10_takings 111 = .ok (.lmul, 1) := by decide +kernel
theorem dX10_takings_112 : decode cX10_takings 112 = .ok (.lload 5, 2) := by decide +kernel
theorem dX10_takings_114 : decode cX10_takings 114 = .ok (.ldiv, 1) := by decide +kernel
theorem dX10_takings_115 : decode cX10_takings 115 = .ok (.l2i, 1) := by decide +kernel
theorem dX10_takings_116 : decode cX10_takings 116 = .ok (.ireturn, 1) := by decide +kernel
theorem dX10_restsOf_0 : decode cX10_restsOf 0 = .ok (.iconst 0, 1) := by decide +kernel
theorem dX10_restsOf_1 : decode cX10_restsOf 1 = .ok (.istore_n 2, 1) := by decide +kernel
theorem dX10_restsOf_2 : decode cX10_restsOf 2 = .ok (.iconst 0, 1) := by decide +kernel
theorem dX10_restsOf_3 : decode cX10_restsOf 3 = .ok (.istore_n 3, 1) := by decide +kernel
theorem dX10_restsOf_4 : decode cX10_restsOf 4 = .ok (.iload_n 3, 1) := by decide +kernel
theorem dX10_restsOf_5 : decode cX10_restsOf 5 = .ok (.bipush 41, 2) := by decide +kernel
theorem dX10_restsOf_7 : decode cX10_restsOf 7 = .ok (.if_icmp .gt 135, 3) := by decide +kernel
theorem dX10_restsOf_10 : decode cX10_restsOf 10 = .ok (.iconst 0, 1) := by decide +kernel
theorem dX10_restsOf_11 : decode cX10_restsOf 11 = .ok (.istore 4, 2) := by decide +kernel
theorem dX10_restsOf_13 : decode cX10_restsOf 13 = .ok (.iload 4, 2) := by decide +kernel
theorem dX10_restsOf_15 : decode cX10_restsOf 15 = .ok (.bipush 41, 2) := by decide +kernel
theorem dX10_restsOf_17 : decode cX10_restsOf 17 = .ok (.if_icmp .gt 119, 3) := by decide +kernel
theorem dX10_restsOf_20 : decode cX10_restsOf 20 = .ok (.iconst 1, 1) := by decide +kernel
theorem dX10_restsOf_21 : decode cX10_restsOf 21 = .ok (.istore 5, 2) := by decide +kernel
theorem dX10_restsOf_23 : decode cX10_restsOf 23 = .ok (.iconst 0, 1) := by decide +kernel
theorem dX10_restsOf_24 : decode cX10_restsOf 24 = .ok (.istore 6, 2) := by decide +kernel
theorem dX10_restsOf_26 : decode cX10_restsOf 26 = .ok (.iload 6, 2) := by decide +kernel
theorem dX10_restsOf_28 : decode cX10_restsOf 28 = .ok (.bipush 41, 2) := by decide +kernel
theorem dX10_restsOf_30 : decode cX10_restsOf 30 = .ok (.if_icmp .gt 76, 3) := by decide +kernel
theorem dX10_restsOf_33 : decode cX10_restsOf 33 = .ok (.iload 5, 2) := by decide +kernel
theorem dX10_restsOf_35 : decode cX10_restsOf 35 = .ok (.ifCond .eq 62, 3) := by decide +kernel
theorem dX10_restsOf_38 : decode cX10_restsOf 38 = .ok (.aload_n 0, 1) := by decide +kernel
theorem dX10_restsOf_39 : decode cX10_restsOf 39 = .ok (.getfield 72, 3) := by decide +kernel
theorem dX10_restsOf_42 : decode cX10_restsOf 42 = .ok (.bipush 42, 2) := by decide +kernel
theorem dX10_restsOf_44 : decode cX10_restsOf 44 = .ok (.iload 6, 2) := by decide +kernel
theorem dX10_restsOf_46 : decode cX10_restsOf 46 = .ok (.imul, 1) := by decide +kernel
theorem dX10_restsOf_47 : decode cX10_restsOf 47 = .ok (.iload 4, 2) := by decide +kernel
theorem dX10_restsOf_49 : decode cX10_restsOf 49 = .ok (.iadd, 1) := by decide +kernel
theorem dX10_restsOf_50 : decode cX10_restsOf 50 = .ok (.iaload, 1) := by decide +kernel
theorem dX10_restsOf_51 : decode cX10_restsOf 51 = .ok (.aload_n 0, 1) := by decide +kernel
theorem dX10_restsOf_52 : decode cX10_restsOf 52 = .ok (.getfield 72, 3) := by decide +kernel
theorem dX10_restsOf_55 : decode cX10_restsOf 55 = .ok (.bipush 42, 2) := by decide +kernel
theorem dX10_restsOf_57 : decode cX10_restsOf 57 = .ok (.iload_n 3, 1) := by decide +kernel
theorem dX10_restsOf_58 : decode cX10_restsOf 58 = .ok (.imul, 1) := by decide +kernel
theorem dX10_restsOf_59 : decode cX10_restsOf 59 = .ok (.iload 4, 2) := by decide +kernel
theorem dX10_restsOf_61 : decode cX10_restsOf 61 = .ok (.iadd, 1) := by decide +kernel
theorem dX10_restsOf_62 : decode cX10_restsOf 62 = .ok (.iaload, 1) := by decide +kernel
theorem dX10_restsOf_63 : decode cX10_restsOf 63 = .ok (.if_icmp .gt 34, 3) := by decide +kernel
theorem dX10_restsOf_66 : decode cX10_restsOf 66 = .ok (.aload_n 0, 1) := by decide +kernel
theorem dX10_restsOf_67 : decode cX10_restsOf 67 = .ok (.getfield 75, 3) := by decide +kernel
theorem dX10_restsOf_70 : decode cX10_restsOf 70 = .ok (.bipush 42, 2) := by decide +kernel
theorem dX10_restsOf_72 : decode cX10_restsOf 72 = .ok (.iload_n 3, 1) := by decide +kernel
theorem dX10_restsOf_73 : decode cX10_restsOf 73 = .ok (.imul, 1) := by decide +kernel
theorem dX10_restsOf_74 : decode cX10_restsOf 74 = .ok (.iload 6, 2) := by decide +kernel
theorem dX10_restsOf_76 : decode cX10_restsOf 76 = .ok (.iadd, 1) := by decide +kernel
theorem dX10_restsOf_77 : decode cX10_restsOf 77 = .ok (.iaload, 1) := by decide +kernel
theorem dX10_restsOf_78 : decode cX10_restsOf 78 = .ok (.aload_n 0, 1) := by decide +kernel
theorem dX10_restsOf_79 : decode cX10_restsOf 79 = .ok (.getfield 75, 3) := by decide +kernel
theorem dX10_restsOf_82 : decode cX10_restsOf 82 = .ok (.bipush 42, 2) := by decide +kernel
theorem dX10_restsOf_84 : decode cX10_restsOf 84 = .ok (.iload_n 3, 1) := by decide +kernel
theorem dX10_restsOf_85 : decode cX10_restsOf 85 = .ok (.imul, 1) := by decide +kernel
theorem dX10_restsOf_86 : decode cX10_restsOf 86 = .ok (.iload 4, 2) := by decide +kernel
theorem dX10_restsOf_88 : decode cX10_restsOf 88 = .ok (.iadd, 1) := by decide +kernel
theorem dX10_restsOf_89 : decode cX10_restsOf 89 = .ok (.iaload, 1) := by decide +kernel
theorem dX10_restsOf_90 : decode cX10_restsOf 90 = .ok (.if_icmp .gt 7, 3) := by decide +kernel
theorem dX10_restsOf_93 : decode cX10_restsOf 93 = .ok (.iconst 1, 1) := by decide +kernel
theorem dX10_restsOf_94 : decode cX10_restsOf 94 = .ok (.goto 4, 3) := by decide +kernel
theorem dX10_restsOf_97 : decode cX10_restsOf 97 = .ok (.iconst 0, 1) := by decide +kernel
theorem dX10_restsOf_98 : decode cX10_restsOf 98 = .ok (.istore 5, 2) := by decide +kernel
theorem dX10_restsOf_100 : decode cX10_restsOf 100 = .ok (.iinc 6 1, 3) := by decide +kernel
theorem dX10_restsOf_103 : decode cX10_restsOf 103 = .ok (.goto (-77), 3) := by decide +kernel
theorem dX10_restsOf_106 : decode cX10_restsOf 106 = .ok (.iload 5, 2) := by decide +kernel
theorem dX10_restsOf_108 : decode cX10_restsOf 108 = .ok (.ifCond .ne 6, 3) := by decide +kernel
theorem dX10_restsOf_111 : decode cX10_restsOf 111 = .ok (.goto 19, 3) := by decide +kernel
theorem dX10_restsOf_114 : decode cX10_restsOf 114 = .ok (.iload_n 2, 1) := by decide +kernel
theorem dX10_restsOf_115 : decode cX10_restsOf 115 = .ok (.iload_n 1, 1) := by decide +kernel
theorem dX10_restsOf_116 : decode cX10_restsOf 116 = .ok (.if_icmp .ne 11, 3) := by decide +kernel
theorem dX10_restsOf_119 : decode cX10_restsOf 119 = .ok (.bipush 64, 2) := by decide +kernel
theorem dX10_restsOf_121 : decode cX10_restsOf 121 = .ok (.iload_n 3, 1) := by decide +kernel
theorem dX10_restsOf_122 : decode cX10_restsOf 122 = .ok (.imul, 1) := by decide +kernel
theorem dX10_restsOf_123 : decode cX10_restsOf 123 = .ok (.iload 4, 2) := by decide +kernel
theorem dX10_restsOf_125 : decode cX10_restsOf 125 = .ok (.iadd, 1) := by decide +kernel
theorem dX10_restsOf_126 : decode cX10_restsOf 126 = .ok (.ireturn, 1) := by decide +kernel
theorem dX10_restsOf_127 : decode cX10_restsOf 127 = .ok (.iinc 2 1, 3) := by decide +kernel
theorem dX10_restsOf_130 : decode cX10_restsOf 130 = .ok (.iinc 4 1, 3) := by decide +kernel
theorem dX10_restsOf_133 : decode cX10_restsOf 133 = .ok (.goto (-120), 3) := by decide +kernel
theorem dX10_restsOf_136 : decode cX10_restsOf 136 = .ok (.iinc 3 1, 3) := by decide +kernel
theorem dX10_restsOf_139 : decode cX10_restsOf 139 = .ok (.goto (-135), 3) := by decide +kernel
theorem dX10_restsOf_142 : decode cX10_restsOf 142 = .ok (.iload_n 1, 1) := by decide +kernel
theorem dX10_restsOf_143 : decode cX10_restsOf 143 = .ok (.iconst (-1), 1) := by decide +kernel
theorem dX10_restsOf_144 : decode cX10_restsOf 144 = .ok (.if_icmp .ne 7, 3) := by decide +kernel
theorem dX10_restsOf_147 : decode cX10_restsOf 147 = .ok (.iload_n 2, 1) := by decide +kernel
theorem dX10_restsOf_148 : decode cX10_restsOf 148 = .ok (.goto 4, 3) := by decide +kernel
theorem dX10_restsOf_151 : decode cX10_restsOf 151 = .ok (.iconst (-1), 1) := by decide +kernel
theorem dX10_restsOf_152 : decode cX10_restsOf 152 = .ok (.ireturn, 1) := by decide +kernel
theorem dX10_rivals_0 : decode cX10_rivals 0 = .ok (.aload_n 0, 1) := by decide +kernel
theorem dX10_rivals_1 : decode cX10_rivals 1 = .ok (.iconst 0, 1) := by decide +kernel
theorem dX10_rivals_2 : decode cX10_rivals 2 = .ok (.putfield 84, 3) := by decide +kernel
theorem dX10_rivals_5 : decode cX10_rivals 5 = .ok (.aload_n 0, 1) := by decide +kernel
theorem dX10_rivals_6 : decode cX10_rivals 6 = .ok (.iload_n 1, 1) := by decide +kernel
theorem dX10_rivals_7 : decode cX10_rivals 7 = .ok (.iload_n 2, 1) := by decide +kernel
theorem dX10_rivals_8 : decode cX10_rivals 8 = .ok (.invokevirtual 165, 3) := by decide +kernel
theorem dX10_rivals_11 : decode cX10_rivals 11 = .ok (.ifCond .eq 33, 3) := by decide +kernel
theorem dX10_rivals_14 : decode cX10_rivals 14 = .ok (.aload_n 0, 1) := by decide +kernel
theorem dX10_rivals_15 : decode cX10_rivals 15 = .ok (.iload_n 1, 1) := by decide +kernel
theorem dX10_rivals_16 : decode cX10_rivals 16 = .ok (.iload_n 3, 1) := by decide +kernel
theorem dX10_rivals_17 : decode cX10_rivals 17 = .ok (.invokevirtual 165, 3) := by decide +kernel
theorem dX10_rivals_20 : decode cX10_rivals 20 = .ok (.ifCond .eq 24, 3) := by decide +kernel
theorem dX10_rivals_23 : decode cX10_rivals 23 = .ok (.iload_n 2, 1) := by decide +kernel
theorem dX10_rivals_24 : decode cX10_rivals 24 = .ok (.iload_n 3, 1) := by decide +kernel
theorem dX10_rivals_25 : decode cX10_rivals 25 = .ok (.if_icmp .eq 19, 3) := by decide +kernel
theorem dX10_rivals_28 : decode cX10_rivals 28 = .ok (.iload 4, 2) := by decide +kernel
theorem dX10_rivals_30 : decode cX10_rivals 30 = .ok (.invokestatic 172, 3) := by decide +kernel
theorem dX10_rivals_33 : decode cX10_rivals 33 = .ok (.ifCond .eq 11, 3) := by decide +kernel
theorem dX10_rivals_36 : decode cX10_rivals 36 = .ok (.iload 5, 2) := by decide +kernel
theorem dX10_rivals_38 : decode cX10_rivals 38 = .ok (.invokestatic 172, 3) := by decide +kernel
theorem dX10_rivals_41 : decode cX10_rivals 41 = .ok (.ifCond .ne 5, 3) := by decide +kernel
theorem dX10_rivals_44 : decode cX10_rivals 44 = .ok (.iconst (-1), 1) := by decide +kernel
theorem dX10_rivals_45 : decode cX10_rivals 45 = .ok (.ireturn, 1) := by decide +kernel
theorem dX10_rivals_46 : decode cX10_rivals 46 = .ok (.iconst 0, 1) := by decide +kernel
theorem dX10_rivals_47 : decode cX10_rivals 47 = .ok (.istore 7, 2) := by decide +kernel
theorem dX10_rivals_49 : decode cX10_rivals 49 = .ok (.iload 7, 2) := by decide +kernel
theorem dX10_rivals_51 : decode cX10_rivals 51 = .ok (.bipush 41, 2) := by decide +kernel
theorem dX10_rivals_53 : decode cX10_rivals 53 = .ok (.if_icmp .gt 149, 3) := by decide +kernel
theorem dX10_rivals_56 : decode cX10_rivals 56 = .ok (.iconst 0, 1) := by decide +kernel
theorem dX10_rivals_57 : decode cX10_rivals 57 = .ok (.istore 8, 2) := by decide +kernel
theorem dX10_rivals_59 : decode cX10_rivals 59 = .ok (.iload 8, 2) := by decide +kernel
theorem dX10_rivals_61 : decode cX10_rivals 61 = .ok (.bipush 41, 2) := by decide +kernel
theorem dX10_rivals_63 : decode cX10_rivals 63 = .ok (.if_icmp .gt 133, 3) := by decide +kernel
theorem dX10_rivals_66 : decode cX10_rivals 66 = .ok (.iload 7, 2) := by decide +kernel
theorem dX10_rivals_68 : decode cX10_rivals 68 = .ok (.iload 8, 2) := by decide +kernel
theorem dX10_rivals_70 : decode cX10_rivals 70 = .ok (.if_icmp .le 7, 3) := by decide +kernel
theorem dX10_rivals_73 : decode cX10_rivals 73 = .ok (.iconst 0, 1) := by decide +kernel
theorem dX10_rivals_74 : decode cX10_rivals 74 = .ok (.goto 31, 3) := by decide +kernel
theorem dX10_rivals_77 : decode cX10_rivals 77 = .ok (.aload_n 0, 1) := by decide +kernel
theorem dX10_rivals_78 : decode cX10_rivals 78 = .ok (.iload_n 1, 1) := by decide +kernel
theorem dX10_rivals_79 : decode cX10_rivals 79 = .ok (.iload_n 2, 1) := by decide +kernel
theorem dX10_rivals_80 : decode cX10_rivals 80 = .ok (.iload 7, 2) := by decide +kernel
theorem dX10_rivals_82 : decode cX10_rivals 82 = .ok (.invokevirtual 168, 3) := by decide +kernel
theorem dX10_rivals_85 : decode cX10_rivals 85 = .ok (.iload 7, 2) := by decide +kernel
theorem dX10_rivals_87 : decode cX10_rivals 87 = .ok (.iload 8, 2) := by decide +kernel
theorem dX10_rivals_89 : decode cX10_rivals 89 = .ok (.if_icmp .ge 14, 3) := by decide +kernel
theorem dX10_rivals_92 : decode cX10_rivals 92 = .ok (.aload_n 0, 1) := by decide +kernel
theorem dX10_rivals_93 : decode cX10_rivals 93 = .ok (.iload_n 1, 1) := by decide +kernel
theorem dX10_rivals_94 : decode cX10_rivals 94 = .ok (.iload_n 3, 1) := by decide +kernel
theorem dX10_rivals_95 : decode cX10_rivals 95 = .ok (.iload 7, 2) := by decide +kernel
theorem dX10_rivals_97 : decode cX10_rivals 97 = .ok (.invokevirtual 168, 3) := by decide +kernel
theorem dX10_rivals_100 : decode cX10_rivals 100 = .ok (.goto 4, 3) := by decide +kernel
theorem dX10_rivals_103 : decode cX10_rivals 103 = .ok (.iconst 0, 1) := by decide +kernel
theorem dX10_rivals_104 : decode cX10_rivals 104 = .ok (.iadd, 1) := by decide +kernel
theorem dX10_rivals_105 : decode cX10_rivals 105 = .ok (.istore 9, 2) := by decide +kernel
theorem dX10_rivals_107 : decode cX10_rivals 107 = .ok (.iload 8, 2) := by decide +kernel
theorem dX10_rivals_109 : decode cX10_rivals 109 = .ok (.iload 7, 2) := by decide +kernel
theorem dX10_rivals_111 : decode cX10_rivals 111 = .ok (.if_icmp .le 7, 3) := by decide +kernel
theorem dX10_rivals_114 : decode cX10_rivals 114 = .ok (.iconst 0, 1) := by decide +kernel
theorem dX10_rivals_115 : decode cX10_rivals 115 = .ok (.goto 31, 3) := by decide +kernel
theorem dX10_rivals_118 : decode cX10_rivals 118 = .ok (.aload_n 0, 1) := by decide +kernel
theorem dX10_rivals_119 : decode cX10_rivals 119 = .ok (.iload_n 1, 1) := by decide +kernel
theorem dX10_rivals_120 : decode cX10_rivals 120 = .ok (.iload_n 3, 1) := by decide +kernel
theorem dX10_rivals_121 : decode cX10_rivals 121 = .ok (.iload 8, 2) := by decide +kernel
theorem dX10_rivals_123 : decode cX10_rivals 123 = .ok (.invokevirtual 168, 3) := by decide +kernel
theorem dX10_rivals_126 : decode cX10_rivals 126 = .ok (.iload 8, 2) := by decide +kernel
theorem dX10_rivals_128 : decode cX10_rivals 128 = .ok (.iload 7, 2) := by decide +kernel
theorem dX10_rivals_130 : decode cX10_rivals 130 = .ok (.if_icmp .ge 14, 3) := by decide +kernel
theorem dX10_rivals_133 : decode cX10_rivals 133 = .ok (.aload_n 0, 1) := by decide +kernel
theorem dX10_rivals_134 : decode cX10_rivals 134 = .ok (.iload_n 1, 1) := by decide +kernel
theorem dX10_rivals_135 : decode cX10_rivals 135 = .ok (.iload_n 2, 1) := by decide +kernel
theorem dX10_rivals_136 : decode cX10_rivals 136 = .ok (.iload 8, 2) := by decide +kernel
theorem dX10_rivals_138 : decode cX10_rivals 138 = .ok (.invokevirtual 168, 3) := by decide +kernel
theorem dX10_rivals_141 : decode cX10_rivals 141 = .ok (.goto 4, 3) := by decide +kernel
theorem dX10_rivals_144 : decode cX10_rivals 144 = .ok (.iconst 0, 1) := by decide +kernel
theorem dX10_rivals_145 : decode cX10_rivals 145 = .ok (.iadd, 1) := by decide +kernel
theorem dX10_rivals_146 : decode cX10_rivals 146 = .ok (.istore 10, 2) := by decide +kernel
theorem dX10_rivals_148 : decode cX10_rivals 148 = .ok (.aload_n 0, 1) := by decide +kernel
theorem dX10_rivals_149 : decode cX10_rivals 149 = .ok (.getfield 72, 3) := by decide +kernel
theorem dX10_rivals_152 : decode cX10_rivals 152 = .ok (.bipush 42, 2) := by decide +kernel
theorem dX10_rivals_154 : decode cX10_rivals 154 = .ok (.iload 7, 2) := by decide +kernel
theorem dX10_rivals_156 : decode cX10_rivals 156 = .ok (.imul, 1) := by decide +kernel
theorem dX10_rivals_157 : decode cX10_rivals 157 = .ok (.iload 8, 2) := by decide +kernel
theorem dX10_rivals_159 : decode cX10_rivals 159 = .ok (.iadd, 1) := by decide +kernel
theorem dX10_rivals_160 : decode cX10_rivals 160 = .ok (.iload 7, 2) := by decide +kernel
theorem dX10_rivals_162 : decode cX10_rivals 162 = .ok (.iload 4, 2) := by decide +kernel
theorem dX10_rivals_164 : decode cX10_rivals 164 = .ok (.isub, 1) := by decide +kernel
theorem dX10_rivals_165 : decode cX10_rivals 165 = .ok (.iload 9, 2) := by decide +kernel
theorem dX10_rivals_167 : decode cX10_rivals 167 = .ok (.imul, 1) := by decide +kernel
theorem dX10_rivals_168 : decode cX10_rivals 168 = .ok (.iastore, 1) := by decide +kernel
theorem dX10_rivals_169 : decode cX10_rivals 169 = .ok (.aload_n 0, 1) := by decide +kernel
theorem dX10_rivals_170 : decode cX10_rivals 170 = .ok (.getfield 75, 3) := by decide +kernel
theorem dX10_rivals_173 : decode cX10_rivals 173 = .ok (.bipush 42, 2) := by decide +kernel
theorem dX10_rivals_175 : decode cX10_rivals 175 = .ok (.iload 7, 2) := by decide +kernel
theorem dX10_rivals_177 : decode cX10_rivals 177 = .ok (.imul, 1) := by decide +kernel
theorem dX10_rivals_178 : decode cX10_rivals 178 = .ok (.iload 8, 2) := by decide +kernel
theorem dX10_rivals_180 : decode cX10_rivals 180 = .ok (.iadd, 1) := by decide +kernel
theorem dX10_rivals_181 : decode cX10_rivals 181 = .ok (.iload 8, 2) := by decide +kernel
theorem dX10_rivals_183 : decode cX10_rivals 183 = .ok (.iload 5, 2) := by decide +kernel
theorem dX10_rivals_185 : decode cX10_rivals 185 = .ok (.isub, 1) := by decide +kernel
theorem dX10_rivals_186 : decode cX10_rivals 186 = .ok (.iload 10, 2) := by decide +kernel
theorem dX10_rivals_188 : decode cX10_rivals 188 = .ok (.imul, 1) := by decide +kernel
theorem dX10_rivals_189 : decode cX10_rivals 189 = .ok (.iastore, 1) := by decide +kernel
theorem dX10_rivals_190 : decode cX10_rivals 190 = .ok (.iinc 8 1, 3) := by decide +kernel
theorem dX10_rivals_193 : decode cX10_rivals 193 = .ok (.goto (-134), 3) := by decide +kernel
theorem dX10_rivals_196 : decode cX10_rivals 196 = .ok (.iinc 7 1, 3) := by decide +kernel
theorem dX10_rivals_199 : decode cX10_rivals 199 = .ok (.goto (-150), 3) := by decide +kernel
theorem dX10_rivals_202 : decode cX10_rivals 202 = .ok (.aload_n 0, 1) := by decide +kernel
theorem dX10_rivals_203 : decode cX10_rivals 203 = .ok (.iload 6, 2) := by decide +kernel
theorem dX10_rivals_205 : decode cX10_rivals 205 = .ok (.invokevirtual 288, 3) := by decide +kernel
theorem dX10_rivals_208 : decode cX10_rivals 208 = .ok (.ireturn, 1) := by decide +kernel
theorem dX10_makers_0 : decode cX10_makers 0 = .ok (.aload_n 0, 1) := by decide +kernel
theorem dX10_makers_1 : decode cX10_makers 1 = .ok (.iconst 0, 1) := by decide +kernel
theorem dX10_makers_2 : decode cX10_makers 2 = .ok (.putfield 84, 3) := by decide +kernel
theorem dX10_makers_5 : decode cX10_makers 5 = .ok (.aload_n 0, 1) := by decide +kernel
theorem dX10_makers_6 : decode cX10_makers 6 = .ok (.iload_n 1, 1) := by decide +kernel
theorem dX10_makers_7 : decode cX10_makers 7 = .ok (.iload_n 2, 1) := by decide +kernel
theorem dX10_makers_8 : decode cX10_makers 8 = .ok (.invokevirtual 154, 3) := by decide +kernel
theorem dX10_makers_11 : decode cX10_makers 11 = .ok (.ifCond .eq 39, 3) := by decide +kernel
theorem dX10_makers_14 : decode cX10_makers 14 = .ok (.aload_n 0, 1) := by decide +kernel
theorem dX10_makers_15 : decode cX10_makers 15 = .ok (.iload_n 1, 1) := by decide +kernel
theorem dX10_makers_16 : decode cX10_makers 16 = .ok (.iload_n 3, 1) := by decide +kernel
theorem dX10_makers_17 : decode cX10_makers 17 = .ok (.invokevirtual 154, 3) := by decide +kernel
theorem dX10_makers_20 : decode cX10_makers 20 = .ok (.ifCond .eq 30, 3) := by decide +kernel
theorem dX10_makers_23 : decode cX10_makers 23 = .ok (.iload_n 2, 1) := by decide +kernel
theorem dX10_makers_24 : decode cX10_makers 24 = .ok (.iload_n 3, 1) := by decide +kernel
theorem dX10_makers_25 : decode cX10_makers 25 = .ok (.if_icmp .eq 25, 3) := by decide +kernel
theorem dX10_makers_28 : decode cX10_makers 28 = .ok (.aload_n 0, 1) := by decide +kernel
theorem dX10_makers_29 : decode cX10_makers 29 = .ok (.iload_n 1, 1) := by decide +kernel
theorem dX10_makers_30 : decode cX10_makers 30 = .ok (.iload 4, 2) := by decide +kernel
theorem dX10_makers_32 : decode cX10_makers 32 = .ok (.invokevirtual 165, 3) := by decide +kernel
theorem dX10_makers_35 : decode cX10_makers 35 = .ok (.ifCond .eq 15, 3) := by decide +kernel
theorem dX10_makers_38 : decode cX10_makers 38 = .ok (.iload_n 2, 1) := by decide +kernel
theorem dX10_makers_39 : decode cX10_makers 39 = .ok (.iload 4, 2) := by decide +kernel
theorem dX10_makers_41 : decode cX10_makers 41 = .ok (.if_icmp .eq 9, 3) := by decide +kernel
theorem dX10_makers_44 : decode cX10_makers 44 = .ok (.iload_n 3, 1) := by decide +kernel
theorem dX10_makers_45 : decode cX10_makers 45 = .ok (.iload 4, 2) := by decide +kernel
theorem dX10_makers_47 : decode cX10_makers 47 = .ok (.if_icmp .ne 5, 3) := by decide +kernel
theorem dX10_makers_50 : decode cX10_makers 50 = .ok (.iconst (-1), 1) := by decide +kernel
theorem dX10_makers_51 : decode cX10_makers 51 = .ok (.ireturn, 1) := by decide +kernel
theorem dX10_makers_52 : decode cX10_makers 52 = .ok (.aload_n 0, 1) := by decide +kernel
theorem dX10_makers_53 : decode cX10_makers 53 = .ok (.iload_n 1, 1) := by decide +kernel
theorem dX10_makers_54 : decode cX10_makers 54 = .ok (.iconst 0, 1) := by decide +kernel
theorem dX10_makers_55 : decode cX10_makers 55 = .ok (.bipush 41, 2) := by decide +kernel
theorem dX10_makers_57 : decode cX10_makers 57 = .ok (.iconst 0, 1) := by decide +kernel
theorem dX10_makers_58 : decode cX10_makers 58 = .ok (.iconst 0, 1) := by decide +kernel
theorem dX10_makers_59 : decode cX10_makers 59 = .ok (.invokevirtual 191, 3) := by decide +kernel
theorem dX10_makers_62 : decode cX10_makers 62 = .ok (.iconst 0, 1) := by decide +kernel
theorem dX10_makers_63 : decode cX10_makers 63 = .ok (.istore 6, 2) := by decide +kernel
theorem dX10_makers_65 : decode cX10_makers 65 = .ok (.iload 6, 2) := by decide +kernel
theorem dX10_makers_67 : decode cX10_makers 67 = .ok (.bipush 41, 2) := by decide +kernel
theorem dX10_makers_69 : decode cX10_makers 69 = .ok (.if_icmp .gt 149, 3) := by decide +kernel
theorem dX10_makers_72 : decode cX10_makers 72 = .ok (.iconst 0, 1) := by decide +kernel
theorem dX10_makers_73 : decode cX10_makers 73 = .ok (.istore 7, 2) := by decide +kernel
theorem dX10_makers_75 : decode cX10_makers 75 = .ok (.iload 7, 2) := by decide +kernel
theorem dX10_makers_77 : decode cX10_makers 77 = .ok (.bipush 41, 2) := by decide +kernel
theorem dX10_makers_79 : decode cX10_makers 79 = .ok (.if_icmp .gt 133, 3) := by decide +kernel
theorem dX10_makers_82 : decode cX10_makers 82 = .ok (.iload 6, 2) := by decide +kernel
theorem dX10_makers_84 : decode cX10_makers 84 = .ok (.iload 7, 2) := by decide +kernel
theorem dX10_makers_86 : decode cX10_makers 86 = .ok (.if_icmp .lt 15, 3) := by decide +kernel
theorem dX10_makers_89 : decode cX10_makers 89 = .ok (.iload 6, 2) := by decide +kernel
theorem dX10_makers_91 : decode cX10_makers 91 = .ok (.iload 7, 2) := by decide +kernel
theorem dX10_makers_93 : decode cX10_makers 93 = .ok (.if_icmp .ne 12, 3) := by decide +kernel
theorem dX10_makers_96 : decode cX10_makers 96 = .ok (.iload_n 2, 1) := by decide +kernel
theorem dX10_makers_97 : decode cX10_makers 97 = .ok (.iload_n 3, 1) := by decide +kernel
theorem dX10_makers_98 : decode cX10_makers 98 = .ok (.if_icmp .ge 7, 3) := by decide +kernel
theorem dX10_makers_101 : decode cX10_makers 101 = .ok (.iconst 1, 1) := by decide +kernel
theorem dX10_makers_102 : decode cX10_makers 102 = .ok (.goto 4, 3) := by decide +kernel
theorem dX10_makers_105 : decode cX10_makers 105 = .ok (.iconst 0, 1) := by decide +kernel
theorem dX10_makers_106 : decode cX10_makers 106 = .ok (.istore 8, 2) := by decide +kernel
theorem dX10_makers_108 : decode cX10_makers 108 = .ok (.aload_n 0, 1) := by decide +kernel
theorem dX10_makers_109 : decode cX10_makers 109 = .ok (.iload_n 1, 1) := by decide +kernel
theorem dX10_makers_110 : decode cX10_makers 110 = .ok (.iload 4, 2) := by decide +kernel
theorem dX10_makers_112 : decode cX10_makers 112 = .ok (.aload_n 0, 1) := by decide +kernel
theorem dX10_makers_113 : decode cX10_makers 113 = .ok (.iload 4, 2) := by decide +kernel
theorem dX10_makers_115 : decode cX10_makers 115 = .ok (.iload 6, 2) := by decide +kernel
theorem dX10_makers_117 : decode cX10_makers 117 = .ok (.iload 7, 2) := by decide +kernel
theorem dX10_makers_119 : decode cX10_makers 119 = .ok (.invokestatic 291, 3) := by decide +kernel
theorem dX10_makers_122 : decode cX10_makers 122 = .ok (.aload_n 0, 1) := by decide +kernel
theorem dX10_makers_123 : decode cX10_makers 123 = .ok (.iload_n 1, 1) := by decide +kernel
theorem dX10_makers_124 : decode cX10_makers 124 = .ok (.iload 4, 2) := by decide +kernel
theorem dX10_makers_126 : decode cX10_makers 126 = .ok (.invokevirtual 162, 3) := by decide +kernel
theorem dX10_makers_129 : decode cX10_makers 129 = .ok (.iadd, 1) := by decide +kernel
theorem dX10_makers_130 : decode cX10_makers 130 = .ok (.invokevirtual 213, 3) := by decide +kernel
theorem dX10_makers_133 : decode cX10_makers 133 = .ok (.invokevirtual 168, 3) := by decide +kernel
theorem dX10_makers_136 : decode cX10_makers 136 = .ok (.istore 9, 2) := by decide +kernel
theorem dX10_makers_138 : decode cX10_makers 138 = .ok (.aload_n 0, 1) := by decide +kernel
theorem dX10_makers_139 : decode cX10_makers 139 = .ok (.getfield 72, 3) := by decide +kernel
theorem dX10_makers_142 : decode cX10_makers 142 = .ok (.bipush 42, 2) := by decide +kernel
theorem dX10_makers_144 : decode cX10_makers 144 = .ok (.iload 6, 2) := by decide +kernel
theorem dX10_makers_146 : decode cX10_makers 146 = .ok (.imul, 1) := by decide +kernel
theorem dX10_makers_147 : decode cX10_makers 147 = .ok (.iload 7, 2) := by decide +kernel
theorem dX10_makers_149 : decode cX10_makers 149 = .ok (.iadd, 1) := by decide +kernel
theorem dX10_makers_150 : decode cX10_makers 150 = .ok (.iload 8, 2) := by decide +kernel
theorem dX10_makers_152 : decode cX10_makers 152 = .ok (.ifCond .eq 18, 3) := by decide +kernel
theorem dX10_makers_155 : decode cX10_makers 155 = .ok (.iload 6, 2) := by decide +kernel
theorem dX10_makers_157 : decode cX10_makers 157 = .ok (.aload_n 0, 1) := by decide +kernel
theorem dX10_makers_158 : decode cX10_makers 158 = .ok (.iload_n 1, 1) := by decide +kernel
theorem dX10_makers_159 : decode cX10_makers 159 = .ok (.iload_n 2, 1) := by decide +kernel
theorem dX10_makers_160 : decode cX10_makers 160 = .ok (.invokevirtual 162, 3) := by decide +kernel
theorem dX10_makers_163 : decode cX10_makers 163 = .ok (.isub, 1) := by decide +kernel
theorem dX10_makers_164 : decode cX10_makers 164 = .ok (.iload 9, 2) := by decide +kernel
theorem dX10_makers_166 : decode cX10_makers 166 = .ok (.imul, 1) := by decide +kernel
theorem dX10_makers_167 : decode cX10_makers 167 = .ok (.goto 4, 3) := by decide +kernel
theorem dX10_makers_170 : decode cX10_makers 170 = .ok (.iconst 0, 1) := by decide +kernel
theorem dX10_makers_171 : decode cX10_makers 171 = .ok (.iastore, 1) := by decide +kernel
theorem dX10_makers_172 : decode cX10_makers 172 = .ok (.aload_n 0, 1) := by decide +kernel
theorem dX10_makers_173 : decode cX10_makers 173 = .ok (.getfield 75, 3) := by decide +kernel
theorem dX10_makers_176 : decode cX10_makers 176 = .ok (.bipush 42, 2) := by decide +kernel
theorem dX10_makers_178 : decode cX10_makers 178 = .ok (.iload 6, 2) := by decide +kernel
theorem dX10_makers_180 : decode cX10_makers 180 = .ok (.imul, 1) := by decide +kernel
theorem dX10_makers_181 : decode cX10_makers 181 = .ok (.iload 7, 2) := by decide +kernel
theorem dX10_makers_183 : decode cX10_makers 183 = .ok (.iadd, 1) := by decide +kernel
theorem dX10_makers_184 : decode cX10_makers 184 = .ok (.iload 8, 2) := by decide +kernel
theorem dX10_makers_186 : decode cX10_makers 186 = .ok (.ifCond .eq 7, 3) := by decide +kernel
theorem dX10_makers_189 : decode cX10_makers 189 = .ok (.iconst 0, 1) := by decide +kernel
theorem dX10_makers_190 : decode cX10_makers 190 = .ok (.goto 15, 3) := by decide +kernel
theorem dX10_makers_193 : decode cX10_makers 193 = .ok (.iload 7, 2) := by decide +kernel
theorem dX10_makers_195 : decode cX10_makers 195 = .ok (.aload_n 0, 1) := by decide +kernel
theorem dX10_makers_196 : decode cX10_makers 196 = .ok (.iload_n 1, 1) := by decide +kernel
theorem dX10_makers_197 : decode cX10_makers 197 = .ok (.iload_n 3, 1) := by decide +kernel
theorem dX10_makers_198 : decode cX10_makers 198 = .ok (.invokevirtual 162, 3) := by decide +kernel
theorem dX10_makers_201 : decode cX10_makers 201 = .ok (.isub, 1) := by decide +kernel
theorem dX10_makers_202 : decode cX10_makers 202 = .ok (.iload 9, 2) := by decide +kernel
theorem dX10_makers_204 : decode cX10_makers 204 = .ok (.imul, 1) := by decide +kernel
theorem dX10_makers_205 : decode cX10_makers 205 = .ok (.iastore, 1) := by decide +kernel
theorem dX10_makers_206 : decode cX10_makers 206 = .ok (.iinc 7 1, 3) := by decide +kernel
theorem dX10_makers_209 : decode cX10_makers 209 = .ok (.goto (-134), 3) := by decide +kernel
theorem dX10_makers_212 : decode cX10_makers 212 = .ok (.iinc 6 1, 3) := by decide +kernel
theorem dX10_makers_215 : decode cX10_makers 215 = .ok (.goto (-150), 3) := by decide +kernel
theorem dX10_makers_218 : decode cX10_makers 218 = .ok (.aload_n 0, 1) := by decide +kernel
theorem dX10_makers_219 : decode cX10_makers 219 = .ok (.iload 5, 2) := by decide +kernel
theorem dX10_makers_221 : decode cX10_makers 221 = .ok (.invokevirtual 288, 3) := by decide +kernel
theorem dX10_makers_224 : decode cX10_makers 224 = .ok (.ireturn, 1) := by decide +kernel
theorem dX10_chance_0 : decode cX10_chance 0 = .ok (.aload_n 0, 1) := by decide +kernel
theorem dX10_chance_1 : decode cX10_chance 1 = .ok (.iconst 0, 1) := by decide +kernel
theorem dX10_chance_2 : decode cX10_chance 2 = .ok (.putfield 84, 3) := by decide +kernel
theorem dX10_chance_5 : decode cX10_chance 5 = .ok (.aload_n 0, 1) := by decide +kernel
theorem dX10_chance_6 : decode cX10_chance 6 = .ok (.getfield 296, 3) := by decide +kernel
theorem dX10_chance_9 : decode cX10_chance 9 = .ok (.bipush 12, 2) := by decide +kernel
theorem dX10_chance_11 : decode cX10_chance 11 = .ok (.if_icmp .eq 23, 3) := by decide +kernel
theorem dX10_chance_14 : decode cX10_chance 14 = .ok (.iload_n 1, 1) := by decide +kernel
theorem dX10_chance_15 : decode cX10_chance 15 = .ok (.iconst 0, 1) := by decide +kernel
theorem dX10_chance_16 : decode cX10_chance 16 = .ok (.bipush 60, 2) := by decide +kernel
theorem dX10_chance_18 : decode cX10_chance 18 = .ok (.invokestatic 123, 3) := by decide +kernel
theorem dX10_chance_21 : decode cX10_chance 21 = .ok (.ifCond .eq 13, 3) := by decide +kernel
theorem dX10_chance_24 : decode cX10_chance 24 = .ok (.iload_n 2, 1) := by decide +kernel
theorem dX10_chance_25 : decode cX10_chance 25 = .ok (.iconst 1, 1) := by decide +kernel
theorem dX10_chance_26 : decode cX10_chance 26 = .ok (.bipush 99, 2) := by decide +kernel
theorem dX10_chance_28 : decode cX10_chance 28 = .ok (.invokestatic 123, 3) := by decide +kernel
theorem dX10_chance_31 : decode cX10_chance 31 = .ok (.ifCond .ne 5, 3) := by decide +kernel
theorem dX10_chance_34 : decode cX10_chance 34 = .ok (.iconst (-1), 1) := by decide +kernel
theorem dX10_chance_35 : decode cX10_chance 35 = .ok (.ireturn, 1) := by decide +kernel
theorem dX10_chance_36 : decode cX10_chance 36 = .ok (.aload_n 0, 1) := by decide +kernel
theorem dX10_chance_37 : decode cX10_chance 37 = .ok (.getfield 78, 3) := by decide +kernel
theorem dX10_chance_40 : decode cX10_chance 40 = .ok (.aload_n 0, 1) := by decide +kernel
theorem dX10_chance_41 : decode cX10_chance 41 = .ok (.getfield 296, 3) := by decide +kernel
theorem dX10_chance_44 : decode cX10_chance 44 = .ok (.iload_n 1, 1) := by decide +kernel
theorem dX10_chance_45 : decode cX10_chance 45 = .ok (.iastore, 1) := by decide +kernel
theorem dX10_chance_46 : decode cX10_chance 46 = .ok (.aload_n 0, 1) := by decide +kernel
theorem dX10_chance_47 : decode cX10_chance 47 = .ok (.getfield 81, 3) := by decide +kernel
theorem dX10_chance_50 : decode cX10_chance 50 = .ok (.aload_n 0, 1) := by decide +kernel
theorem dX10_chance_51 : decode cX10_chance 51 = .ok (.getfield 296, 3) := by decide +kernel
theorem dX10_chance_54 : decode cX10_chance 54 = .ok (.iload_n 2, 1) := by decide +kernel
theorem dX10_chance_55 : decode cX10_chance 55 = .ok (.iastore, 1) := by decide +kernel
theorem dX10_chance_56 : decode cX10_chance 56 = .ok (.aload_n 0, 1) := by decide +kernel
theorem dX10_chance_57 : decode cX10_chance 57 = .ok (.dup, 1) := by decide +kernel
theorem dX10_chance_58 : decode cX10_chance 58 = .ok (.getfield 296, 3) := by decide +kernel
theorem dX10_chance_61 : decode cX10_chance 61 = .ok (.iconst 1, 1) := by decide +kernel
theorem dX10_chance_62 : decode cX10_chance 62 = .ok (.iadd, 1) := by decide +kernel
theorem dX10_chance_63 : decode cX10_chance 63 = .ok (.putfield 296, 3) := by decide +kernel
theorem dX10_chance_66 : decode cX10_chance 66 = .ok (.aload_n 0, 1) := by decide +kernel
theorem dX10_chance_67 : decode cX10_chance 67 = .ok (.getfield 296, 3) := by decide +kernel
theorem dX10_chance_70 : decode cX10_chance 70 = .ok (.ireturn, 1) := by decide +kernel
theorem dX10_clear_0 : decode cX10_clear 0 = .ok (.aload_n 0, 1) := by decide +kernel
theorem dX10_clear_1 : decode cX10_clear 1 = .ok (.iconst 0, 1) := by decide +kernel
theorem dX10_clear_2 : decode cX10_clear 2 = .ok (.putfield 84, 3) := by decide +kernel
theorem dX10_clear_5 : decode cX10_clear 5 = .ok (.aload_n 0, 1) := by decide +kernel
theorem dX10_clear_6 : decode cX10_clear 6 = .ok (.getfield 296, 3) := by decide +kernel
theorem dX10_clear_9 : decode cX10_clear 9 = .ok (.istore_n 1, 1) := by decide +kernel
theorem dX10_clear_10 : decode cX10_clear 10 = .ok (.aload_n 0, 1) := by decide +kernel
theorem dX10_clear_11 : decode cX10_clear 11 = .ok (.iconst 0, 1) := by decide +kernel
theorem dX10_clear_12 : decode cX10_clear 12 = .ok (.putfield 296, 3) := by decide +kernel
theorem dX10_clear_15 : decode cX10_clear 15 = .ok (.iload_n 1, 1) := by decide +kernel
theorem dX10_clear_16 : decode cX10_clear 16 = .ok (.ireturn, 1) := by decide +kernel
theorem dX10_expected_0 : decode cX10_expected 0 = .ok (.iconst 0, 1) := by decide +kernel
theorem dX10_expected_1 : decode cX10_expected 1 = .ok (.istore 5, 2) := by decide +kernel
theorem dX10_expected_3 : decode cX10_expected 3 = .ok (.iconst 0, 1) := by decide +kernel
theorem dX10_expected_4 : decode cX10_expected 4 = .ok (.istore 6, 2) := by decide +kernel
theorem dX10_expected_6 : decode cX10_expected 6 = .ok (.iload 6, 2) := by decide +kernel
theorem dX10_expected_8 : decode cX10_expected 8 = .ok (.aload_n 0, 1) := by decide +kernel
theorem dX10_expected_9 : decode cX10_expected 9 = .ok (.getfield 296, 3) := by decide +kernel
theorem dX10_expected_12 : decode cX10_expected 12 = .ok (.if_icmp .ge 53, 3) := by decide +kernel
theorem dX10_expected_15 : decode cX10_expected 15 = .ok (.iload 4, 2) := by decide +kernel
theorem dX10_expected_17 : decode cX10_expected 17 = .ok (.aload_n 0, 1) := by decide +kernel
theorem dX10_expected_18 : decode cX10_expected 18 = .ok (.getfield 78, 3) := by decide +kernel
theorem dX10_expected_21 : decode cX10_expected 21 = .ok (.iload 6, 2) := by decide +kernel
theorem dX10_expected_23 : decode cX10_expected 23 = .ok (.iaload, 1) := by decide +kernel
theorem dX10_expected_24 : decode cX10_expected 24 = .ok (.invokestatic 291, 3) := by decide +kernel
theorem dX10_expected_27 : decode cX10_expected 27 = .ok (.istore 7, 2) := by decide +kernel
theorem dX10_expected_29 : decode cX10_expected 29 = .ok (.iload 5, 2) := by decide +kernel
theorem dX10_expected_31 : decode cX10_expected 31 = .ok (.aload_n 0, 1) := by decide +kernel
theorem dX10_expected_32 : decode cX10_expected 32 = .ok (.getfield 81, 3) := by decide +kernel
theorem dX10_expected_35 : decode cX10_expected 35 = .ok (.iload 6, 2) := by decide +kernel
theorem dX10_expected_37 : decode cX10_expected 37 = .ok (.iaload, 1) := by decide +kernel
theorem dX10_expected_38 : decode cX10_expected 38 = .ok (.iload_n 1, 1) := by decide +kernel
theorem dX10_expected_39 : decode cX10_expected 39 = .ok (.iload 7, 2) := by decide +kernel
theorem dX10_expected_41 : decode cX10_expected 41 = .ok (.imul, 1) := by decide +kernel
theorem dX10_expected_42 : decode cX10_expected 42 = .ok (.iload_n 3, 1) := by decide +kernel
theorem dX10_expected_43 : decode cX10_expected 43 = .ok (.iload 4, 2) := by decide +kernel
theorem dX10_expected_45 : decode cX10_expected 45 = .ok (.iload 7, 2) := by decide +kernel
theorem dX10_expected_47 : decode cX10_expected 47 = .ok (.isub, 1) := by decide +kernel
theorem dX10_expected_48 : decode cX10_expected 48 = .ok (.imul, 1) := by decide +kernel
theorem dX10_expected_49 : decode cX10_expected 49 = .ok (.iadd, 1) := by decide +kernel
theorem dX10_expected_50 : decode cX10_expected 50 = .ok (.iload_n 2, 1) := by decide +kernel
theorem dX10_expected_51 : decode cX10_expected 51 = .ok (.iload 4, 2) := by decide +kernel
theorem dX10_expected_53 : decode cX10_expected 53 = .ok (.imul, 1) := by decide +kernel
theorem dX10_expected_54 : decode cX10_expected 54 = .ok (.isub, 1) := by decide +kernel
theorem dX10_expected_55 : decode cX10_expected 55 = .ok (.imul, 1) := by decide +kernel
theorem dX10_expected_56 : decode cX10_expected 56 = .ok (.iadd, 1) := by decide +kernel
theorem dX10_expected_57 : decode cX10_expected 57 = .ok (.istore 5, 2) := by decide +kernel
theorem dX10_expected_59 : decode cX10_expected 59 = .ok (.iinc 6 1, 3) := by decide +kernel
theorem dX10_expected_62 : decode cX10_expected 62 = .ok (.goto (-56), 3) := by decide +kernel
theorem dX10_expected_65 : decode cX10_expected 65 = .ok (.iload 5, 2) := by decide +kernel
theorem dX10_expected_67 : decode cX10_expected 67 = .ok (.ireturn, 1) := by decide +kernel
theorem dX10_isAsked_0 : decode cX10_isAsked 0 = .ok (.aload_n 0, 1) := by decide +kernel
theorem dX10_isAsked_1 : decode cX10_isAsked 1 = .ok (.iconst 0, 1) := by decide +kernel
theorem dX10_isAsked_2 : decode cX10_isAsked 2 = .ok (.putfield 84, 3) := by decide +kernel
theorem dX10_isAsked_5 : decode cX10_isAsked 5 = .ok (.iload_n 1, 1) := by decide +kernel
theorem dX10_isAsked_6 : decode cX10_isAsked 6 = .ok (.invokestatic 172, 3) := by decide +kernel
theorem dX10_isAsked_9 : decode cX10_isAsked 9 = .ok (.ifCond .eq 28, 3) := by decide +kernel
theorem dX10_isAsked_12 : decode cX10_isAsked 12 = .ok (.iload_n 2, 1) := by decide +kernel
theorem dX10_isAsked_13 : decode cX10_isAsked 13 = .ok (.invokestatic 172, 3) := by decide +kernel
theorem dX10_isAsked_16 : decode cX10_isAsked 16 = .ok (.ifCond .eq 21, 3) := by decide +kernel
theorem dX10_isAsked_19 : decode cX10_isAsked 19 = .ok (.iload_n 3, 1) := by decide +kernel
theorem dX10_isAsked_20 : decode cX10_isAsked 20 = .ok (.invokestatic 172, 3) := by decide +kernel
theorem dX10_isAsked_23 : decode cX10_isAsked 23 = .ok (.ifCond .eq 14, 3) := by decide +kernel
theorem dX10_isAsked_26 : decode cX10_isAsked 26 = .ok (.aload_n 0, 1) := by decide +kernel
theorem dX10_isAsked_27 : decode cX10_isAsked 27 = .ok (.getfield 296, 3) := by decide +kernel
theorem dX10_isAsked_30 : decode cX10_isAsked 30 = .ok (.ifCond .le 7, 3) := by decide +kernel
theorem dX10_isAsked_33 : decode cX10_isAsked 33 = .ok (.iconst 1, 1) := by decide +kernel
theorem dX10_isAsked_34 : decode cX10_isAsked 34 = .ok (.goto 4, 3) := by decide +kernel
theorem dX10_isAsked_37 : decode cX10_isAsked 37 = .ok (.iconst 0, 1) := by decide +kernel
theorem dX10_isAsked_38 : decode cX10_isAsked 38 = .ok (.ireturn, 1) := by decide +kernel
theorem dX10_expects_0 : decode cX10_expects 0 = .ok (.aload_n 0, 1) := by decide +kernel
theorem dX10_expects_1 : decode cX10_expects 1 = .ok (.iload_n 1, 1) := by decide +kernel
theorem dX10_expects_2 : decode cX10_expects 2 = .ok (.iload_n 2, 1) := by decide +kernel
theorem dX10_expects_3 : decode cX10_expects 3 = .ok (.iload_n 3, 1) := by decide +kernel
theorem dX10_expects_4 : decode cX10_expects 4 = .ok (.invokevirtual 299, 3) := by decide +kernel
theorem dX10_expects_7 : decode cX10_expects 7 = .ok (.ifCond .eq 26, 3) := by decide +kernel
theorem dX10_expects_10 : decode cX10_expects 10 = .ok (.iload 4, 2) := by decide +kernel
theorem dX10_expects_12 : decode cX10_expects 12 = .ok (.iconst 0, 1) := by decide +kernel
theorem dX10_expects_13 : decode cX10_expects 13 = .ok (.bipush 60, 2) := by decide +kernel
theorem dX10_expects_15 : decode cX10_expects 15 = .ok (.invokestatic 123, 3) := by decide +kernel
theorem dX10_expects_18 : decode cX10_expects 18 = .ok (.ifCond .eq 15, 3) := by decide +kernel
theorem dX10_expects_21 : decode cX10_expects 21 = .ok (.aload_n 0, 1) := by decide +kernel
theorem dX10_expects_22 : decode cX10_expects 22 = .ok (.iload_n 1, 1) := by decide +kernel
theorem dX10_expects_23 : decode cX10_expects 23 = .ok (.iload_n 2, 1) := by decide +kernel
theorem dX10_expects_24 : decode cX10_expects 24 = .ok (.iload_n 3, 1) := by decide +kernel
theorem dX10_expects_25 : decode cX10_expects 25 = .ok (.iload 4, 2) := by decide +kernel
theorem dX10_expects_27 : decode cX10_expects 27 = .ok (.invokevirtual 302, 3) := by decide +kernel
theorem dX10_expects_30 : decode cX10_expects 30 = .ok (.goto 5, 3) := by decide +kernel
theorem dX10_expects_33 : decode cX10_expects 33 = .ok (.ldc 226, 2) := by decide +kernel
theorem dX10_expects_35 : decode cX10_expects 35 = .ok (.ireturn, 1) := by decide +kernel
theorem dX10_bestStock_0 : decode cX10_bestStock 0 = .ok (.iconst 0, 1) := by decide +kernel
theorem dX10_bestStock_1 : decode cX10_bestStock 1 = .ok (.istore 4, 2) := by decide +kernel
theorem dX10_bestStock_3 : decode cX10_bestStock 3 = .ok (.iconst 1, 1) := by decide +kernel
theorem dX10_bestStock_4 : decode cX10_bestStock 4 = .ok (.istore 5, 2) := by decide +kernel
theorem dX10_bestStock_6 : decode cX10_bestStock 6 = .ok (.iload 5, 2) := by decide +kernel
theorem dX10_bestStock_8 : decode cX10_bestStock 8 = .ok (.bipush 60, 2) := by decide +kernel
theorem dX10_bestStock_10 : decode cX10_bestStock 10 = .ok (.if_icmp .gt 34, 3) := by decide +kernel
theorem dX10_bestStock_13 : decode cX10_bestStock 13 = .ok (.aload_n 0, 1) := by decide +kernel
theorem dX10_bestStock_14 : decode cX10_bestStock 14 = .ok (.iload_n 1, 1) := by decide +kernel
theorem dX10_bestStock_15 : decode cX10_bestStock 15 = .ok (.iload_n 2, 1) := by decide +kernel
theorem dX10_bestStock_16 : decode cX10_bestStock 16 = .ok (.iload_n 3, 1) := by decide +kernel
theorem dX10_bestStock_17 : decode cX10_bestStock 17 = .ok (.iload 5, 2) := by decide +kernel
theorem dX10_bestStock_19 : decode cX10_bestStock 19 = .ok (.invokevirtual 302, 3) := by decide +kernel
theorem dX10_bestStock_22 : decode cX10_bestStock 22 = .ok (.aload_n 0, 1) := by decide +kernel
theorem dX10_bestStock_23 : decode cX10_bestStock 23 = .ok (.iload_n 1, 1) := by decide +kernel
theorem dX10_bestStock_24 : decode cX10_bestStock 24 = .ok (.iload_n 2, 1) := by decide +kernel
theorem dX10_bestStock_25 : decode cX10_bestStock 25 = .ok (.iload_n 3, 1) := by decide +kernel
theorem dX10_bestStock_26 : decode cX10_bestStock 26 = .ok (.iload 4, 2) := by decide +kernel
theorem dX10_bestStock_28 : decode cX10_bestStock 28 = .ok (.invokevirtual 302, 3) := by decide +kernel
theorem dX10_bestStock_31 : decode cX10_bestStock 31 = .ok (.if_icmp .le 7, 3) := by decide +kernel
theorem dX10_bestStock_34 : decode cX10_bestStock 34 = .ok (.iload 5, 2) := by decide +kernel
theorem dX10_bestStock_36 : decode cX10_bestStock 36 = .ok (.istore 4, 2) := by decide +kernel
theorem dX10_bestStock_38 : decode cX10_bestStock 38 = .ok (.iinc 5 1, 3) := by decide +kernel
theorem dX10_bestStock_41 : decode cX10_bestStock 41 = .ok (.goto (-35), 3) := by decide +kernel
theorem dX10_bestStock_44 : decode cX10_bestStock 44 = .ok (.iload 4, 2) := by decide +kernel
theorem dX10_bestStock_46 : decode cX10_bestStock 46 = .ok (.ireturn, 1) := by decide +kernel
theorem dX10_stock_0 : decode cX10_stock 0 = .ok (.aload_n 0, 1) := by decide +kernel
theorem dX10_stock_1 : decode cX10_stock 1 = .ok (.iload_n 1, 1) := by decide +kernel
theorem dX10_stock_2 : decode cX10_stock 2 = .ok (.iload_n 2, 1) := by decide +kernel
theorem dX10_stock_3 : decode cX10_stock 3 = .ok (.iload_n 3, 1) := by decide +kernel
theorem dX10_stock_4 : decode cX10_stock 4 = .ok (.invokevirtual 299, 3) := by decide +kernel
theorem dX10_stock_7 : decode cX10_stock 7 = .ok (.ifCond .eq 13, 3) := by decide +kernel
theorem dX10_stock_10 : decode cX10_stock 10 = .ok (.aload_n 0, 1) := by decide +kernel
theorem dX10_stock_11 : decode cX10_stock 11 = .ok (.iload_n 1, 1) := by decide +kernel
theorem dX10_stock_12 : decode cX10_stock 12 = .ok (.iload_n 2, 1) := by decide +kernel
theorem dX10_stock_13 : decode cX10_stock 13 = .ok (.iload_n 3, 1) := by decide +kernel
theorem dX10_stock_14 : decode cX10_stock 14 = .ok (.invokevirtual 306, 3) := by decide +kernel
theorem dX10_stock_17 : decode cX10_stock 17 = .ok (.goto 4, 3) := by decide +kernel
theorem dX10_stock_20 : decode cX10_stock 20 = .ok (.iconst (-1), 1) := by decide +kernel
theorem dX10_stock_21 : decode cX10_stock 21 = .ok (.ireturn, 1) := by decide +kernel
theorem dX10_sellerExpects_0 : decode cX10_sellerExpects 0 = .ok (.aload_n 0, 1) := by decide +kernel
theorem dX10_sellerExpects_1 : decode cX10_sellerExpects 1 = .ok (.iload_n 1, 1) := by decide +kernel
theorem dX10_sellerExpects_2 : decode cX10_sellerExpects 2 = .ok (.iload_n 2, 1) := by decide +kernel
theorem dX10_sellerExpects_3 : decode cX10_sellerExpects 3 = .ok (.iload 4, 2) := by decide +kernel
theorem dX10_sellerExpects_5 : decode cX10_sellerExpects 5 = .ok (.invokevirtual 306, 3) := by decide +kernel
theorem dX10_sellerExpects_8 : decode cX10_sellerExpects 8 = .ok (.istore 5, 2) := by decide +kernel
theorem dX10_sellerExpects_10 : decode cX10_sellerExpects 10 = .ok (.iconst 0, 1) := by decide +kernel
theorem dX10_sellerExpects_11 : decode cX10_sellerExpects 11 = .ok (.istore 6, 2) := by decide +kernel
theorem dX10_sellerExpects_13 : decode cX10_sellerExpects 13 = .ok (.iconst 0, 1) := by decide +kernel
theorem dX10_sellerExpects_14 : decode cX10_sellerExpects 14 = .ok (.istore 7, 2) := by decide +kernel
theorem dX10_sellerExpects_16 : decode cX10_sellerExpects 16 = .ok (.iload 7, 2) := by decide +kernel
theorem dX10_sellerExpects_18 : decode cX10_sellerExpects 18 = .ok (.aload_n 0, 1) := by decide +kernel
theorem dX10_sellerExpects_19 : decode cX10_sellerExpects 19 = .ok (.getfield 296, 3) := by decide +kernel
theorem dX10_sellerExpects_22 : decode cX10_sellerExpects 22 = .ok (.if_icmp .ge 47, 3) := by decide +kernel
theorem dX10_sellerExpects_25 : decode cX10_sellerExpects 25 = .ok (.iload 6, 2) := by decide +kernel
theorem dX10_sellerExpects_27 : decode cX10_sellerExpects 27 = .ok (.aload_n 0, 1) := by decide +kernel
theorem dX10_sellerExpects_28 : decode cX10_sellerExpects 28 = .ok (.getfield 81, 3) := by decide +kernel
theorem dX10_sellerExpects_31 : decode cX10_sellerExpects 31 = .ok (.iload 7, 2) := by decide +kernel
theorem dX10_sellerExpects_33 : decode cX10_sellerExpects 33 = .ok (.iaload, 1) := by decide +kernel
theorem dX10_sellerExpects_34 : decode cX10_sellerExpects 34 = .ok (.iload_n 2, 1) := by decide +kernel
theorem dX10_sellerExpects_35 : decode cX10_sellerExpects 35 = .ok (.iload_n 3, 1) := by decide +kernel
theorem dX10_sellerExpects_36 : decode cX10_sellerExpects 36 = .ok (.isub, 1) := by decide +kernel
theorem dX10_sellerExpects_37 : decode cX10_sellerExpects 37 = .ok (.iload 5, 2) := by decide +kernel
theorem dX10_sellerExpects_39 : decode cX10_sellerExpects 39 = .ok (.imul, 1) := by decide +kernel
theorem dX10_sellerExpects_40 : decode cX10_sellerExpects 40 = .ok (.iload 4, 2) := by decide +kernel
theorem dX10_sellerExpects_42 : decode cX10_sellerExpects 42 = .ok (.iload 5, 2) := by decide +kernel
theorem dX10_sellerExpects_44 : decode cX10_sellerExpects 44 = .ok (.iload 5, 2) := by decide +kernel
theorem dX10_sellerExpects_46 : decode cX10_sellerExpects 46 = .ok (.aload_n 0, 1) := by decide +kernel
theorem dX10_sellerExpects_47 : decode cX10_sellerExpects 47 = .ok (.getfield 78, 3) := by decide +kernel
theorem dX10_sellerExpects_50 : decode cX10_sellerExpects 50 = .ok (.iload 7, 2) := by decide +kernel
theorem dX10_sellerExpects_52 : decode cX10_sellerExpects 52 = .ok (.iaload, 1) := by decide +kernel
theorem dX10_sellerExpects_53 : decode cX10_sellerExpects 53 = .ok (.invokestatic 291, 3) := by decide +kernel
theorem dX10_sellerExpects_56 : decode cX10_sellerExpects 56 = .ok (.isub, 1) := by decide +kernel
theorem dX10_sellerExpects_57 : decode cX10_sellerExpects 57 = .ok (.imul, 1) := by decide +kernel
theorem dX10_sellerExpects_58 : decode cX10_sellerExpects 58 = .ok (.isub, 1) := by decide +kernel
theorem dX10_sellerExpects_59 : decode cX10_sellerExpects 59 = .ok (.imul, 1) := by decide +kernel
theorem dX10_sellerExpects_60 : decode cX10_sellerExpects 60 = .ok (.iadd, 1) := by decide +kernel
theorem dX10_sellerExpects_61 : decode cX10_sellerExpects 61 = .ok (.istore 6, 2) := by decide +kernel
theorem dX10_sellerExpects_63 : decode cX10_sellerExpects 63 = .ok (.iinc 7 1, 3) := by decide +kernel
theorem dX10_sellerExpects_66 : decode cX10_sellerExpects 66 = .ok (.goto (-50), 3) := by decide +kernel
theorem dX10_sellerExpects_69 : decode cX10_sellerExpects 69 = .ok (.iload 6, 2) := by decide +kernel
theorem dX10_sellerExpects_71 : decode cX10_sellerExpects 71 = .ok (.ireturn, 1) := by decide +kernel
theorem dX10_seller_0 : decode cX10_seller 0 = .ok (.aload_n 0, 1) := by decide +kernel
theorem dX10_seller_1 : decode cX10_seller 1 = .ok (.iload_n 1, 1) := by decide +kernel
theorem dX10_seller_2 : decode cX10_seller 2 = .ok (.iload_n 2, 1) := by decide +kernel
theorem dX10_seller_3 : decode cX10_seller 3 = .ok (.iload_n 3, 1) := by decide +kernel
theorem dX10_seller_4 : decode cX10_seller 4 = .ok (.invokevirtual 299, 3) := by decide +kernel
theorem dX10_seller_7 : decode cX10_seller 7 = .ok (.ifCond .eq 13, 3) := by decide +kernel
theorem dX10_seller_10 : decode cX10_seller 10 = .ok (.iload 4, 2) := by decide +kernel
theorem dX10_seller_12 : decode cX10_seller 12 = .ok (.iconst 0, 1) := by decide +kernel
theorem dX10_seller_13 : decode cX10_seller 13 = .ok (.iconst 1, 1) := by decide +kernel
theorem dX10_seller_14 : decode cX10_seller 14 = .ok (.invokestatic 123, 3) := by decide +kernel
theorem dX10_seller_17 : decode cX10_seller 17 = .ok (.ifCond .ne 6, 3) := by decide +kernel
theorem dX10_seller_20 : decode cX10_seller 20 = .ok (.ldc 226, 2) := by decide +kernel
theorem dX10_seller_22 : decode cX10_seller 22 = .ok (.ireturn, 1) := by decide +kernel
theorem dX10_seller_23 : decode cX10_seller 23 = .ok (.iconst 0, 1) := by decide +kernel
theorem dX10_seller_24 : decode cX10_seller 24 = .ok (.istore 5, 2) := by decide +kernel
theorem dX10_seller_26 : decode cX10_seller 26 = .ok (.aload_n 0, 1) := by decide +kernel
theorem dX10_seller_27 : decode cX10_seller 27 = .ok (.iload_n 1, 1) := by decide +kernel
theorem dX10_seller_28 : decode cX10_seller 28 = .ok (.iload_n 2, 1) := by decide +kernel
theorem dX10_seller_29 : decode cX10_seller 29 = .ok (.iload_n 3, 1) := by decide +kernel
theorem dX10_seller_30 : decode cX10_seller 30 = .ok (.iconst 0, 1) := by decide +kernel
theorem dX10_seller_31 : decode cX10_seller 31 = .ok (.invokevirtual 309, 3) := by decide +kernel
theorem dX10_seller_34 : decode cX10_seller 34 = .ok (.istore 6, 2) := by decide +kernel
theorem dX10_seller_36 : decode cX10_seller 36 = .ok (.iconst 1, 1) := by decide +kernel
theorem dX10_seller_37 : decode cX10_seller 37 = .ok (.istore 7, 2) := by decide +kernel
theorem dX10_seller_39 : decode cX10_seller 39 = .ok (.iload 7, 2) := by decide +kernel
theorem dX10_seller_41 : decode cX10_seller 41 = .ok (.iload_n 2, 1) := by decide +kernel
theorem dX10_seller_42 : decode cX10_seller 42 = .ok (.if_icmp .gt 38, 3) := by decide +kernel
theorem dX10_seller_45 : decode cX10_seller 45 = .ok (.aload_n 0, 1) := by decide +kernel
theorem dX10_seller_46 : decode cX10_seller 46 = .ok (.iload_n 1, 1) := by decide +kernel
theorem dX10_seller_47 : decode cX10_seller 47 = .ok (.iload_n 2, 1) := by decide +kernel
theorem dX10_seller_48 : decode cX10_seller 48 = .ok (.iload_n 3, 1) := by decide +kernel
theorem dX10_seller_49 : decode cX10_seller 49 = .ok (.iload 7, 2) := by decide +kernel
theorem dX10_seller_51 : decode cX10_seller 51 = .ok (.invokevirtual 309, 3) := by decide +kernel
theorem dX10_seller_54 : decode cX10_seller 54 = .ok (.istore 8, 2) := by decide +kernel
theorem dX10_seller_56 : decode cX10_seller 56 = .ok (.iload 8, 2) := by decide +kernel
theorem dX10_seller_58 : decode cX10_seller 58 = .ok (.iload 6, 2) := by decide +kernel
theorem dX10_seller_60 : decode cX10_seller 60 = .ok (.if_icmp .gt 6, 3) := by decide +kernel
theorem dX10_seller_63 : decode cX10_seller 63 = .ok (.goto 11, 3) := by decide +kernel
theorem dX10_seller_66 : decode cX10_seller 66 = .ok (.iload 8, 2) := by decide +kernel
theorem dX10_seller_68 : decode cX10_seller 68 = .ok (.istore 6, 2) := by decide +kernel
theorem dX10_seller_70 : decode cX10_seller 70 = .ok (.iload 7, 2) := by decide +kernel
theorem dX10_seller_72 : decode cX10_seller 72 = .ok (.istore 5, 2) := by decide +kernel
theorem dX10_seller_74 : decode cX10_seller 74 = .ok (.iinc 7 1, 3) := by decide +kernel
theorem dX10_seller_77 : decode cX10_seller 77 = .ok (.goto (-38), 3) := by decide +kernel
theorem dX10_seller_80 : decode cX10_seller 80 = .ok (.iload 4, 2) := by decide +kernel
theorem dX10_seller_82 : decode cX10_seller 82 = .ok (.ifCond .ne 8, 3) := by decide +kernel
theorem dX10_seller_85 : decode cX10_seller 85 = .ok (.iload 5, 2) := by decide +kernel
theorem dX10_seller_87 : decode cX10_seller 87 = .ok (.goto 5, 3) := by decide +kernel
theorem dX10_seller_90 : decode cX10_seller 90 = .ok (.iload 6, 2) := by decide +kernel
theorem dX10_seller_92 : decode cX10_seller 92 = .ok (.ireturn, 1) := by decide +kernel
theorem dX10_oneWith_0 : decode cX10_oneWith 0 = .ok (.iconst 1, 1) := by decide +kernel
theorem dX10_oneWith_1 : decode cX10_oneWith 1 = .ok (.iload_n 3, 1) := by decide +kernel
theorem dX10_oneWith_2 : decode cX10_oneWith 2 = .ok (.ishl, 1) := by decide +kernel
theorem dX10_oneWith_3 : decode cX10_oneWith 3 = .ok (.istore 4, 2) := by decide +kernel
theorem dX10_oneWith_5 : decode cX10_oneWith 5 = .ok (.iconst 0, 1) := by decide +kernel
theorem dX10_oneWith_6 : decode cX10_oneWith 6 = .ok (.istore 5, 2) := by decide +kernel
theorem dX10_oneWith_8 : decode cX10_oneWith 8 = .ok (.iload 5, 2) := by decide +kernel
theorem dX10_oneWith_10 : decode cX10_oneWith 10 = .ok (.bipush 8, 2) := by decide +kernel
theorem dX10_oneWith_12 : decode cX10_oneWith 12 = .ok (.if_icmp .ge 91, 3) := by decide +kernel
theorem dX10_oneWith_15 : decode cX10_oneWith 15 = .ok (.iconst 0, 1) := by decide +kernel
theorem dX10_oneWith_16 : decode cX10_oneWith 16 = .ok (.istore 6, 2) := by decide +kernel
theorem dX10_oneWith_18 : decode cX10_oneWith 18 = .ok (.iload 6, 2) := by decide +kernel
theorem dX10_oneWith_20 : decode cX10_oneWith 20 = .ok (.aload_n 0, 1) := by decide +kernel
theorem dX10_oneWith_21 : decode cX10_oneWith 21 = .ok (.getfield 13, 3) := by decide +kernel
theorem dX10_oneWith_24 : decode cX10_oneWith 24 = .ok (.iload_n 1, 1) := by decide +kernel
theorem dX10_oneWith_25 : decode cX10_oneWith 25 = .ok (.iaload, 1) := by decide +kernel
theorem dX10_oneWith_26 : decode cX10_oneWith 26 = .ok (.if_icmp .ge 71, 3) := by decide +kernel
theorem dX10_oneWith_29 : decode cX10_oneWith 29 = .ok (.aload_n 0, 1) := by decide +kernel
theorem dX10_oneWith_30 : decode cX10_oneWith 30 = .ok (.getfield 20, 3) := by decide +kernel
theorem dX10_oneWith_33 : decode cX10_oneWith 33 = .ok (.bipush 8, 2) := by decide +kernel
theorem dX10_oneWith_35 : decode cX10_oneWith 35 = .ok (.iload_n 1, 1) := by decide +kernel
theorem dX10_oneWith_36 : decode cX10_oneWith 36 = .ok (.imul, 1) := by decide +kernel
theorem dX10_oneWith_37 : decode cX10_oneWith 37 = .ok (.iload 6, 2) := by decide +kernel
theorem dX10_oneWith_39 : decode cX10_oneWith 39 = .ok (.iadd, 1) := by decide +kernel
theorem dX10_oneWith_40 : decode cX10_oneWith 40 = .ok (.iaload, 1) := by decide +kernel
theorem dX10_oneWith_41 : decode cX10_oneWith 41 = .ok (.istore 7, 2) := by decide +kernel
theorem dX10_oneWith_43 : decode cX10_oneWith 43 = .ok (.iload 7, 2) := by decide +kernel
theorem dX10_oneWith_45 : decode cX10_oneWith 45 = .ok (.iconst (-1), 1) := by decide +kernel
theorem dX10_oneWith_46 : decode cX10_oneWith 46 = .ok (.if_icmp .eq 45, 3) := by decide +kernel
theorem dX10_oneWith_49 : decode cX10_oneWith 49 = .ok (.iload_n 2, 1) := by decide +kernel
theorem dX10_oneWith_50 : decode cX10_oneWith 50 = .ok (.iload 6, 2) := by decide +kernel
theorem dX10_oneWith_52 : decode cX10_oneWith 52 = .ok (.ishr, 1) := by decide +kernel
theorem dX10_oneWith_53 : decode cX10_oneWith 53 = .ok (.iconst 1, 1) := by decide +kernel
theorem dX10_oneWith_54 : decode cX10_oneWith 54 = .ok (.iand, 1) := by decide +kernel
theorem dX10_oneWith_55 : decode cX10_oneWith 55 = .ok (.ifCond .eq 36, 3) := by decide +kernel
theorem dX10_oneWith_58 : decode cX10_oneWith 58 = .ok (.iload 4, 2) := by decide +kernel
theorem dX10_oneWith_60 : decode cX10_oneWith 60 = .ok (.iload 7, 2) := by decide +kernel
theorem dX10_oneWith_62 : decode cX10_oneWith 62 = .ok (.ishr, 1) := by decide +kernel
theorem dX10_oneWith_63 : decode cX10_oneWith 63 = .ok (.iload 4, 2) := by decide +kernel
theorem dX10_oneWith_65 : decode cX10_oneWith 65 = .ok (.iload 6, 2) := by decide +kernel
theorem dX10_oneWith_67 : decode cX10_oneWith 67 = .ok (.ishr, 1) := by decide +kernel
theorem dX10_oneWith_68 : decode cX10_oneWith 68 = .ok (.ior, 1) := by decide +kernel
theorem dX10_oneWith_69 : decode cX10_oneWith 69 = .ok (.iconst 1, 1) := by decide +kernel
theorem dX10_oneWith_70 : decode cX10_oneWith 70 = .ok (.iand, 1) := by decide +kernel
theorem dX10_oneWith_71 : decode cX10_oneWith 71 = .ok (.ifCond .ne 6, 3) := by decide +kernel
theorem dX10_oneWith_74 : decode cX10_oneWith 74 = .ok (.goto 17, 3) := by decide +kernel
theorem dX10_oneWith_77 : decode cX10_oneWith 77 = .ok (.iload 4, 2) := by decide +kernel
theorem dX10_oneWith_79 : decode cX10_oneWith 79 = .ok (.iconst 1, 1) := by decide +kernel
theorem dX10_oneWith_80 : decode cX10_oneWith 80 = .ok (.iload 7, 2) := by decide +kernel
theorem dX10_oneWith_82 : decode cX10_oneWith 82 = .ok (.ishl, 1) := by decide +kernel
theorem dX10_oneWith_83 : decode cX10_oneWith 83 = .ok (.iconst 1, 1) := by decide +kernel
theorem dX10_oneWith_84 : decode cX10_oneWith 84 = .ok (.iload 6, 2) := by decide +kernel
theorem dX10_oneWith_86 : decode cX10_oneWith 86 = .ok (.ishl, 1) := by decide +kernel
theorem dX10_oneWith_87 : decode cX10_oneWith 87 = .ok (.ior, 1) := by decide +kernel
theorem dX10_oneWith_88 : decode cX10_oneWith 88 = .ok (.ior, 1) := by decide +kernel
theorem dX10_oneWith_89 : decode cX10_oneWith 89 = .ok (.istore 4, 2) := by decide +kernel
theorem dX10_oneWith_91 : decode cX10_oneWith 91 = .ok (.iinc 6 1, 3) := by decide +kernel
theorem dX10_oneWith_94 : decode cX10_oneWith 94 = .ok (.goto (-76), 3) := by decide +kernel
theorem dX10_oneWith_97 : decode cX10_oneWith 97 = .ok (.iinc 5 1, 3) := by decide +kernel
theorem dX10_oneWith_100 : decode cX10_oneWith 100 = .ok (.goto (-92), 3) := by decide +kernel
theorem dX10_oneWith_103 : decode cX10_oneWith 103 = .ok (.iload 4, 2) := by decide +kernel
theorem dX10_oneWith_105 : decode cX10_oneWith 105 = .ok (.ireturn, 1) := by decide +kernel
theorem dX10_earnTogether_0 : decode cX10_earnTogether 0 = .ok (.aload_n 0, 1) := by decide +kernel
theorem dX10_earnTogether_1 : decode cX10_earnTogether 1 = .ok (.iload_n 1, 1) := by decide +kernel
theorem dX10_earnTogether_2 : decode cX10_earnTogether 2 = .ok (.iload_n 2, 1) := by decide +kernel
theorem dX10_earnTogether_3 : decode cX10_earnTogether 3 = .ok (.aload_n 0, 1) := by decide +kernel
theorem dX10_earnTogether_4 : decode cX10_earnTogether 4 = .ok (.getfield 41, 3) := by decide +kernel
theorem dX10_earnTogether_7 : decode cX10_earnTogether 7 = .ok (.iload_n 1, 1) := by decide +kernel
theorem dX10_earnTogether_8 : decode cX10_earnTogether 8 = .ok (.iaload, 1) := by decide +kernel
theorem dX10_earnTogether_9 : decode cX10_earnTogether 9 = .ok (.aload_n 0, 1) := by decide +kernel
theorem dX10_earnTogether_10 : decode cX10_earnTogether 10 = .ok (.getfield 50, 3) := by decide +kernel
theorem dX10_earnTogether_13 : decode cX10_earnTogether 13 = .ok (.iload_n 1, 1) := by decide +kernel
theorem dX10_earnTogether_14 : decode cX10_earnTogether 14 = .ok (.baload, 1) := by decide +kernel
theorem dX10_earnTogether_15 : decode cX10_earnTogether 15 = .ok (.aload_n 0, 1) := by decide +kernel
theorem dX10_earnTogether_16 : decode cX10_earnTogether 16 = .ok (.getfield 54, 3) := by decide +kernel
theorem dX10_earnTogether_19 : decode cX10_earnTogether 19 = .ok (.iload_n 1, 1) := by decide +kernel
theorem dX10_earnTogether_20 : decode cX10_earnTogether 20 = .ok (.baload, 1) := by decide +kernel
theorem dX10_earnTogether_21 : decode cX10_earnTogether 21 = .ok (.invokevirtual 191, 3) := by decide +kernel
theorem dX10_earnTogether_24 : decode cX10_earnTogether 24 = .ok (.aload_n 0, 1) := by decide +kernel
theorem dX10_earnTogether_25 : decode cX10_earnTogether 25 = .ok (.invokevirtual 227, 3) := by decide +kernel
theorem dX10_earnTogether_28 : decode cX10_earnTogether 28 = .ok (.iconst 0, 1) := by decide +kernel
theorem dX10_earnTogether_29 : decode cX10_earnTogether 29 = .ok (.istore 4, 2) := by decide +kernel
theorem dX10_earnTogether_31 : decode cX10_earnTogether 31 = .ok (.iconst 0, 1) := by decide +kernel
theorem dX10_earnTogether_32 : decode cX10_earnTogether 32 = .ok (.istore 5, 2) := by decide +kernel
theorem dX10_earnTogether_34 : decode cX10_earnTogether 34 = .ok (.iload 5, 2) := by decide +kernel
theorem dX10_earnTogether_36 : decode cX10_earnTogether 36 = .ok (.aload_n 0, 1) := by decide +kernel
theorem dX10_earnTogether_37 : decode cX10_earnTogether 37 = .ok (.getfield 13, 3) := by decide +kernel
theorem dX10_earnTogether_40 : decode cX10_earnTogether 40 = .ok (.iload_n 1, 1) := by decide +kernel
theorem dX10_earnTogether_41 : decode cX10_earnTogether 41 = .ok (.iaload, 1) := by decide +kernel
theorem dX10_earnTogether_42 : decode cX10_earnTogether 42 = .ok (.if_icmp .ge 34, 3) := by decide +kernel
theorem dX10_earnTogether_45 : decode cX10_earnTogether 45 = .ok (.iload 4, 2) := by decide +kernel
theorem dX10_earnTogether_47 : decode cX10_earnTogether 47 = .ok (.iload_n 3, 1) := by decide +kernel
theorem dX10_earnTogether_48 : decode cX10_earnTogether 48 = .ok (.iload 5, 2) := by decide +kernel
theorem dX10_earnTogether_50 : decode cX10_earnTogether 50 = .ok (.ishr, 1) := by decide +kernel
theorem dX10_earnTogether_51 : decode cX10_earnTogether 51 = .ok (.iconst 1, 1) := by decide +kernel
theorem dX10_earnTogether_52 : decode cX10_earnTogether 52 = .ok (.iand, 1) := by decide +kernel
theorem dX10_earnTogether_53 : decode cX10_earnTogether 53 = .ok (.iconst 1, 1) := by decide +kernel
theorem dX10_earnTogether_54 : decode cX10_earnTogether 54 = .ok (.if_icmp .ne 12, 3) := by decide +kernel
theorem dX10_earnTogether_57 : decode cX10_earnTogether 57 = .ok (.aload_n 0, 1) := by decide +kernel
theorem dX10_earnTogether_58 : decode cX10_earnTogether 58 = .ok (.iload 5, 2) := by decide +kernel
theorem dX10_earnTogether_60 : decode cX10_earnTogether 60 = .ok (.invokevirtual 230, 3) := by decide +kernel
theorem dX10_earnTogether_63 : decode cX10_earnTogether 63 = .ok (.goto 4, 3) := by decide +kernel
theorem dX10_earnTogether_66 : decode cX10_earnTogether 66 = .ok (.iconst 0, 1) := by decide +kernel
theorem dX10_earnTogether_67 : decode cX10_earnTogether 67 = .ok (.iadd, 1) := by decide +kernel
theorem dX10_earnTogether_68 : decode cX10_earnTogether 68 = .ok (.istore 4, 2) := by decide +kernel
theorem dX10_earnTogether_70 : decode cX10_earnTogether 70 = .ok (.iinc 5 1, 3) := by decide +kernel
theorem dX10_earnTogether_73 : decode cX10_earnTogether 73 = .ok (.goto (-39), 3) := by decide +kernel
theorem dX10_earnTogether_76 : decode cX10_earnTogether 76 = .ok (.iload 4, 2) := by decide +kernel
theorem dX10_earnTogether_78 : decode cX10_earnTogether 78 = .ok (.ireturn, 1) := by decide +kernel
theorem dX10_ratherBy_0 : decode cX10_ratherBy 0 = .ok (.aload_n 0, 1) := by decide +kernel
theorem dX10_ratherBy_1 : decode cX10_ratherBy 1 = .ok (.iload_n 1, 1) := by decide +kernel
theorem dX10_ratherBy_2 : decode cX10_ratherBy 2 = .ok (.iload_n 2, 1) := by decide +kernel
theorem dX10_ratherBy_3 : decode cX10_ratherBy 3 = .ok (.iload_n 3, 1) := by decide +kernel
theorem dX10_ratherBy_4 : decode cX10_ratherBy 4 = .ok (.invokevirtual 312, 3) := by decide +kernel
theorem dX10_ratherBy_7 : decode cX10_ratherBy 7 = .ok (.aload_n 0, 1) := by decide +kernel
theorem dX10_ratherBy_8 : decode cX10_ratherBy 8 = .ok (.iload_n 1, 1) := by decide +kernel
theorem dX10_ratherBy_9 : decode cX10_ratherBy 9 = .ok (.iload_n 2, 1) := by decide +kernel
theorem dX10_ratherBy_10 : decode cX10_ratherBy 10 = .ok (.aload_n 0, 1) := by decide +kernel
theorem dX10_ratherBy_11 : decode cX10_ratherBy 11 = .ok (.getfield 20, 3) := by decide +kernel
theorem dX10_ratherBy_14 : decode cX10_ratherBy 14 = .ok (.bipush 8, 2) := by decide +kernel
theorem dX10_ratherBy_16 : decode cX10_ratherBy 16 = .ok (.iload_n 1, 1) := by decide +kernel
theorem dX10_ratherBy_17 : decode cX10_ratherBy 17 = .ok (.imul, 1) := by decide +kernel
theorem dX10_ratherBy_18 : decode cX10_ratherBy 18 = .ok (.iload_n 3, 1) := by decide +kernel
theorem dX10_ratherBy_19 : decode cX10_ratherBy 19 = .ok (.iadd, 1) := by decide +kernel
theorem dX10_ratherBy_20 : decode cX10_ratherBy 20 = .ok (.iaload, 1) := by decide +kernel
theorem dX10_ratherBy_21 : decode cX10_ratherBy 21 = .ok (.invokevirtual 312, 3) := by decide +kernel
theorem dX10_ratherBy_24 : decode cX10_ratherBy 24 = .ok (.ior, 1) := by decide +kernel
theorem dX10_ratherBy_25 : decode cX10_ratherBy 25 = .ok (.istore 4, 2) := by decide +kernel
theorem dX10_ratherBy_27 : decode cX10_ratherBy 27 = .ok (.aload_n 0, 1) := by decide +kernel
theorem dX10_ratherBy_28 : decode cX10_ratherBy 28 = .ok (.iload_n 1, 1) := by decide +kernel
theorem dX10_ratherBy_29 : decode cX10_ratherBy 29 = .ok (.iload_n 2, 1) := by decide +kernel
theorem dX10_ratherBy_30 : decode cX10_ratherBy 30 = .ok (.iconst 1, 1) := by decide +kernel
theorem dX10_ratherBy_31 : decode cX10_ratherBy 31 = .ok (.iload_n 3, 1) := by decide +kernel
theorem dX10_ratherBy_32 : decode cX10_ratherBy 32 = .ok (.ishl, 1) := by decide +kernel
theorem dX10_ratherBy_33 : decode cX10_ratherBy 33 = .ok (.ior, 1) := by decide +kernel
theorem dX10_ratherBy_34 : decode cX10_ratherBy 34 = .ok (.iload 4, 2) := by decide +kernel
theorem dX10_ratherBy_36 : decode cX10_ratherBy 36 = .ok (.invokevirtual 315, 3) := by decide +kernel
theorem dX10_ratherBy_39 : decode cX10_ratherBy 39 = .ok (.aload_n 0, 1) := by decide +kernel
theorem dX10_ratherBy_40 : decode cX10_ratherBy 40 = .ok (.iload_n 1, 1) := by decide +kernel
theorem dX10_ratherBy_41 : decode cX10_ratherBy 41 = .ok (.iload_n 2, 1) := by decide +kernel
theorem dX10_ratherBy_42 : decode cX10_ratherBy 42 = .ok (.iload 4, 2) := by decide +kernel
theorem dX10_ratherBy_44 : decode cX10_ratherBy 44 = .ok (.invokevirtual 315, 3) := by decide +kernel
theorem dX10_ratherBy_47 : decode cX10_ratherBy 47 = .ok (.isub, 1) := by decide +kernel
theorem dX10_ratherBy_48 : decode cX10_ratherBy 48 = .ok (.ireturn, 1) := by decide +kernel
theorem dX10_rather_0 : decode cX10_rather 0 = .ok (.aload_n 0, 1) := by decide +kernel
theorem dX10_rather_1 : decode cX10_rather 1 = .ok (.iconst 0, 1) := by decide +kernel
theorem dX10_rather_2 : decode cX10_rather 2 = .ok (.putfield 84, 3) := by decide +kernel
theorem dX10_rather_5 : decode cX10_rather 5 = .ok (.aload_n 0, 1) := by decide +kernel
theorem dX10_rather_6 : decode cX10_rather 6 = .ok (.iload_n 1, 1) := by decide +kernel
theorem dX10_rather_7 : decode cX10_rather 7 = .ok (.iload_n 2, 1) := by decide +kernel
theorem dX10_rather_8 : decode cX10_rather 8 = .ok (.invokevirtual 154, 3) := by decide +kernel
theorem dX10_rather_11 : decode cX10_rather 11 = .ok (.ifCond .eq 26, 3) := by decide +kernel
theorem dX10_rather_14 : decode cX10_rather 14 = .ok (.aload_n 0, 1) := by decide +kernel
theorem dX10_rather_15 : decode cX10_rather 15 = .ok (.iload_n 1, 1) := by decide +kernel
theorem dX10_rather_16 : decode cX10_rather 16 = .ok (.iload_n 2, 1) := by decide +kernel
theorem dX10_rather_17 : decode cX10_rather 17 = .ok (.invokevirtual 274, 3) := by decide +kernel
theorem dX10_rather_20 : decode cX10_rather 20 = .ok (.ifCond .ne 17, 3) := by decide +kernel
theorem dX10_rather_23 : decode cX10_rather 23 = .ok (.aload_n 0, 1) := by decide +kernel
theorem dX10_rather_24 : decode cX10_rather 24 = .ok (.getfield 38, 3) := by decide +kernel
theorem dX10_rather_27 : decode cX10_rather 27 = .ok (.iload_n 1, 1) := by decide +kernel
theorem dX10_rather_28 : decode cX10_rather 28 = .ok (.iaload, 1) := by decide +kernel
theorem dX10_rather_29 : decode cX10_rather 29 = .ok (.iload_n 2, 1) := by decide +kernel
theorem dX10_rather_30 : decode cX10_rather 30 = .ok (.ishr, 1) := by decide +kernel
theorem dX10_rather_31 : decode cX10_rather 31 = .ok (.iconst 1, 1) := by decide +kernel
theorem dX10_rather_32 : decode cX10_rather 32 = .ok (.iand, 1) := by decide +kernel
theorem dX10_rather_33 : decode cX10_rather 33 = .ok (.iconst 1, 1) := by decide +kernel
theorem dX10_rather_34 : decode cX10_rather 34 = .ok (.if_icmp .ne 8, 3) := by decide +kernel
theorem dX10_rather_37 : decode cX10_rather 37 = .ok (.ldc 226, 2) := by decide +kernel
theorem dX10_rather_39 : decode cX10_rather 39 = .ok (.goto 15, 3) := by decide +kernel
theorem dX10_rather_42 : decode cX10_rather 42 = .ok (.aload_n 0, 1) := by decide +kernel
theorem dX10_rather_43 : decode cX10_rather 43 = .ok (.iload_n 1, 1) := by decide +kernel
theorem dX10_rather_44 : decode cX10_rather 44 = .ok (.aload_n 0, 1) := by decide +kernel
theorem dX10_rather_45 : decode cX10_rather 45 = .ok (.getfield 38, 3) := by decide +kernel
theorem dX10_rather_48 : decode cX10_rather 48 = .ok (.iload_n 1, 1) := by decide +kernel
theorem dX10_rather_49 : decode cX10_rather 49 = .ok (.iaload, 1) := by decide +kernel
theorem dX10_rather_50 : decode cX10_rather 50 = .ok (.iload_n 2, 1) := by decide +kernel
theorem dX10_rather_51 : decode cX10_rather 51 = .ok (.invokevirtual 318, 3) := by decide +kernel
theorem dX10_rather_54 : decode cX10_rather 54 = .ok (.ireturn, 1) := by decide +kernel
theorem dX10_rests_0 : decode cX10_rests 0 = .ok (.aload_n 0, 1) := by decide +kernel
theorem dX10_rests_1 : decode cX10_rests 1 = .ok (.iconst 0, 1) := by decide +kernel
theorem dX10_rests_2 : decode cX10_rests 2 = .ok (.putfield 84, 3) := by decide +kernel
theorem dX10_rests_5 : decode cX10_rests 5 = .ok (.aload_n 0, 1) := by decide +kernel
theorem dX10_rests_6 : decode cX10_rests 6 = .ok (.iload_n 1, 1) := by decide +kernel
theorem dX10_rests_7 : decode cX10_rests 7 = .ok (.invokevirtual 148, 3) := by decide +kernel
theorem dX10_rests_10 : decode cX10_rests 10 = .ok (.ifCond .ne 5, 3) := by decide +kernel
theorem dX10_rests_13 : decode cX10_rests 13 = .ok (.iconst (-1), 1) := by decide +kernel
theorem dX10_rests_14 : decode cX10_rests 14 = .ok (.ireturn, 1) := by decide +kernel
theorem dX10_rests_15 : decode cX10_rests 15 = .ok (.iconst 0, 1) := by decide +kernel
theorem dX10_rests_16 : decode cX10_rests 16 = .ok (.istore_n 3, 1) := by decide +kernel
theorem dX10_rests_17 : decode cX10_rests 17 = .ok (.iconst 0, 1) := by decide +kernel
theorem dX10_rests_18 : decode cX10_rests 18 = .ok (.istore 4, 2) := by decide +kernel
theorem dX10_rests_20 : decode cX10_rests 20 = .ok (.iload 4, 2) := by decide +kernel
theorem dX10_rests_22 : decode cX10_rests 22 = .ok (.iconst 1, 1) := by decide +kernel
theorem dX10_rests_23 : decode cX10_rests 23 = .ok (.aload_n 0, 1) := by decide +kernel
theorem dX10_rests_24 : decode cX10_rests 24 = .ok (.getfield 13, 3) := by decide +kernel
theorem dX10_rests_27 : decode cX10_rests 27 = .ok (.iload_n 1, 1) := by decide +kernel
theorem dX10_rests_28 : decode cX10_rests 28 = .ok (.iaload, 1) := by decide +kernel
theorem dX10_rests_29 : decode cX10_rests 29 = .ok (.ishl, 1) := by decide +kernel
theorem dX10_rests_30 : decode cX10_rests 30 = .ok (.if_icmp .ge 114, 3) := by decide +kernel
theorem dX10_rests_33 : decode cX10_rests 33 = .ok (.iconst 1, 1) := by decide +kernel
theorem dX10_rests_34 : decode cX10_rests 34 = .ok (.istore 5, 2) := by decide +kernel
theorem dX10_rests_36 : decode cX10_rests 36 = .ok (.iconst 0, 1) := by decide +kernel
theorem dX10_rests_37 : decode cX10_rests 37 = .ok (.istore 6, 2) := by decide +kernel
theorem dX10_rests_39 : decode cX10_rests 39 = .ok (.iload 6, 2) := by decide +kernel
theorem dX10_rests_41 : decode cX10_rests 41 = .ok (.aload_n 0, 1) := by decide +kernel
theorem dX10_rests_42 : decode cX10_rests 42 = .ok (.getfield 13, 3) := by decide +kernel
theorem dX10_rests_45 : decode cX10_rests 45 = .ok (.iload_n 1, 1) := by decide +kernel
theorem dX10_rests_46 : decode cX10_rests 46 = .ok (.iaload, 1) := by decide +kernel
theorem dX10_rests_47 : decode cX10_rests 47 = .ok (.if_icmp .ge 72, 3) := by decide +kernel
theorem dX10_rests_50 : decode cX10_rests 50 = .ok (.iload 5, 2) := by decide +kernel
theorem dX10_rests_52 : decode cX10_rests 52 = .ok (.ifCond .eq 67, 3) := by decide +kernel
theorem dX10_rests_55 : decode cX10_rests 55 = .ok (.aload_n 0, 1) := by decide +kernel
theorem dX10_rests_56 : decode cX10_rests 56 = .ok (.iload_n 1, 1) := by decide +kernel
theorem dX10_rests_57 : decode cX10_rests 57 = .ok (.iload 6, 2) := by decide +kernel
theorem dX10_rests_59 : decode cX10_rests 59 = .ok (.invokevirtual 274, 3) := by decide +kernel
theorem dX10_rests_62 : decode cX10_rests 62 = .ok (.ifCond .eq 21, 3) := by decide +kernel
theorem dX10_rests_65 : decode cX10_rests 65 = .ok (.iload 4, 2) := by decide +kernel
theorem dX10_rests_67 : decode cX10_rests 67 = .ok (.iload 6, 2) := by decide +kernel
theorem dX10_rests_69 : decode cX10_rests 69 = .ok (.ishr, 1) := by decide +kernel
theorem dX10_rests_70 : decode cX10_rests 70 = .ok (.iconst 1, 1) := by decide +kernel
theorem dX10_rests_71 : decode cX10_rests 71 = .ok (.iand, 1) := by decide +kernel
theorem dX10_rests_72 : decode cX10_rests 72 = .ok (.ifCond .ne 7, 3) := by decide +kernel
theorem dX10_rests_75 : decode cX10_rests 75 = .ok (.iconst 1, 1) := by decide +kernel
theorem dX10_rests_76 : decode cX10_rests 76 = .ok (.goto 35, 3) := by decide +kernel
theorem dX10_rests_79 : decode cX10_rests 79 = .ok (.iconst 0, 1) := by decide +kernel
theorem dX10_rests_80 : decode cX10_rests 80 = .ok (.goto 31, 3) := by decide +kernel
theorem dX10_rests_83 : decode cX10_rests 83 = .ok (.iload 4, 2) := by decide +kernel
theorem dX10_rests_85 : decode cX10_rests 85 = .ok (.iload 6, 2) := by decide +kernel
theorem dX10_rests_87 : decode cX10_rests 87 = .ok (.ishr, 1) := by decide +kernel
theorem dX10_rests_88 : decode cX10_rests 88 = .ok (.iconst 1, 1) := by decide +kernel
theorem dX10_rests_89 : decode cX10_rests 89 = .ok (.iand, 1) := by decide +kernel
theorem dX10_rests_90 : decode cX10_rests 90 = .ok (.iconst 1, 1) := by decide +kernel
theorem dX10_rests_91 : decode cX10_rests 91 = .ok (.if_icmp .eq 15, 3) := by decide +kernel
theorem dX10_rests_94 : decode cX10_rests 94 = .ok (.aload_n 0, 1) := by decide +kernel
theorem dX10_rests_95 : decode cX10_rests 95 = .ok (.iload_n 1, 1) := by decide +kernel
theorem dX10_rests_96 : decode cX10_rests 96 = .ok (.iload 4, 2) := by decide +kernel
theorem dX10_rests_98 : decode cX10_rests 98 = .ok (.iload 6, 2) := by decide +kernel
theorem dX10_rests_100 : decode cX10_rests 100 = .ok (.invokevirtual 318, 3) := by decide +kernel
theorem dX10_rests_103 : decode cX10_rests 103 = .ok (.ifCond .gt 7, 3) := by decide +kernel
theorem dX10_rests_106 : decode cX10_rests 106 = .ok (.iconst 1, 1) := by decide +kernel
theorem dX10_rests_107 : decode cX10_rests 107 = .ok (.goto 4, 3) := by decide +kernel
theorem dX10_rests_110 : decode cX10_rests 110 = .ok (.iconst 0, 1) := by decide +kernel
theorem dX10_rests_111 : decode cX10_rests 111 = .ok (.istore 5, 2) := by decide +kernel
theorem dX10_rests_113 : decode cX10_rests 113 = .ok (.iinc 6 1, 3) := by decide +kernel
theorem dX10_rests_116 : decode cX10_rests 116 = .ok (.goto (-77), 3) := by decide +kernel
theorem dX10_rests_119 : decode cX10_rests 119 = .ok (.iload 5, 2) := by decide +kernel
theorem dX10_rests_121 : decode cX10_rests 121 = .ok (.ifCond .ne 6, 3) := by decide +kernel
theorem dX10_rests_124 : decode cX10_rests 124 = .ok (.goto 14, 3) := by decide +kernel
theorem dX10_rests_127 : decode cX10_rests 127 = .ok (.iload_n 3, 1) := by decide +kernel
theorem dX10_rests_128 : decode cX10_rests 128 = .ok (.iload_n 2, 1) := by decide +kernel
theorem dX10_rests_129 : decode cX10_rests 129 = .ok (.if_icmp .ne 6, 3) := by decide +kernel
theorem dX10_rests_132 : decode cX10_rests 132 = .ok (.iload 4, 2) := by decide +kernel
theorem dX10_rests_134 : decode cX10_rests 134 = .ok (.ireturn, 1) := by decide +kernel
theorem dX10_rests_135 : decode cX10_rests 135 = .ok (.iinc 3 1, 3) := by decide +kernel
theorem dX10_rests_138 : decode cX10_rests 138 = .ok (.iinc 4 1, 3) := by decide +kernel
theorem dX10_rests_141 : decode cX10_rests 141 = .ok (.goto (-121), 3) := by decide +kernel
theorem dX10_rests_144 : decode cX10_rests 144 = .ok (.iload_n 2, 1) := by decide +kernel
theorem dX10_rests_145 : decode cX10_rests 145 = .ok (.iconst (-1), 1) := by decide +kernel
theorem dX10_rests_146 : decode cX10_rests 146 = .ok (.if_icmp .ne 7, 3) := by decide +kernel
theorem dX10_rests_149 : decode cX10_rests 149 = .ok (.iload_n 3, 1) := by decide +kernel
theorem dX10_rests_150 : decode cX10_rests 150 = .ok (.goto 4, 3) := by decide +kernel
theorem dX10_rests_153 : decode cX10_rests 153 = .ok (.iconst (-1), 1) := by decide +kernel
theorem dX10_rests_154 : decode cX10_rests 154 = .ok (.ireturn, 1) := by decide +kernel
theorem dX10_count_0 : decode cX10_count 0 = .ok (.aload_n 0, 1) := by decide +kernel
theorem dX10_count_1 : decode cX10_count 1 = .ok (.iconst 0, 1) := by decide +kernel
theorem dX10_count_2 : decode cX10_count 2 = .ok (.putfield 84, 3) := by decide +kernel
theorem dX10_count_5 : decode cX10_count 5 = .ok (.iload_n 1, 1) := by decide +kernel
theorem dX10_count_6 : decode cX10_count 6 = .ok (.tableswitch 41 0 2 #[26, 31, 36], 26) := by decide +kernel
theorem dX10_count_32 : decode cX10_count 32 = .ok (.aload_n 0, 1) := by decide +kernel
theorem dX10_count_33 : decode cX10_count 33 = .ok (.getfield 139, 3) := by decide +kernel
theorem dX10_count_36 : decode cX10_count 36 = .ok (.ireturn, 1) := by decide +kernel
theorem dX10_count_37 : decode cX10_count 37 = .ok (.aload_n 0, 1) := by decide +kernel
theorem dX10_count_38 : decode cX10_count 38 = .ok (.getfield 296, 3) := by decide +kernel
theorem dX10_count_41 : decode cX10_count 41 = .ok (.ireturn, 1) := by decide +kernel
theorem dX10_count_42 : decode cX10_count 42 = .ok (.aload_n 0, 1) := by decide +kernel
theorem dX10_count_43 : decode cX10_count 43 = .ok (.getfield 88, 3) := by decide +kernel
theorem dX10_count_46 : decode cX10_count 46 = .ok (.ireturn, 1) := by decide +kernel
theorem dX10_count_47 : decode cX10_count 47 = .ok (.iconst (-1), 1) := by decide +kernel
theorem dX10_count_48 : decode cX10_count 48 = .ok (.ireturn, 1) := by decide +kernel
