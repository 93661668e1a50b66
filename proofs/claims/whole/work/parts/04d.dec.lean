theorem dX10_init_0 : decode cX10_init 0 = .ok (.aload_n 0, 1) := by decide +kernel
theorem dX10_init_1 : decode cX10_init 1 = .ok (.invokespecial 1, 3) := by decide +kernel
theorem dX10_init_4 : decode cX10_init 4 = .ok (.aload_n 0, 1) := by decide +kernel
theorem dX10_init_5 : decode cX10_init 5 = .ok (.iconst 3, 1) := by decide +kernel
theorem dX10_init_6 : decode cX10_init 6 = .ok (.putfield 7, 3) := by decide +kernel
theorem dX10_init_9 : decode cX10_init 9 = .ok (.aload_n 0, 1) := by decide +kernel
theorem dX10_init_10 : decode cX10_init 10 = .ok (.bipush 10, 2) := by decide +kernel
theorem dX10_init_12 : decode cX10_init 12 = .ok (.putfield 13, 3) := by decide +kernel
theorem dX10_init_15 : decode cX10_init 15 = .ok (.aload_n 0, 1) := by decide +kernel
theorem dX10_init_16 : decode cX10_init 16 = .ok (.iconst (-1), 1) := by decide +kernel
theorem dX10_init_17 : decode cX10_init 17 = .ok (.putfield 16, 3) := by decide +kernel
theorem dX10_init_20 : decode cX10_init 20 = .ok (.aload_n 0, 1) := by decide +kernel
theorem dX10_init_21 : decode cX10_init 21 = .ok (.iconst (-1), 1) := by decide +kernel
theorem dX10_init_22 : decode cX10_init 22 = .ok (.putfield 19, 3) := by decide +kernel
theorem dX10_init_25 : decode cX10_init 25 = .ok (.aload_n 0, 1) := by decide +kernel
theorem dX10_init_26 : decode cX10_init 26 = .ok (.bipush 8, 2) := by decide +kernel
theorem dX10_init_28 : decode cX10_init 28 = .ok (.newarray .int, 2) := by decide +kernel
theorem dX10_init_30 : decode cX10_init 30 = .ok (.putfield 22, 3) := by decide +kernel
theorem dX10_init_33 : decode cX10_init 33 = .ok (.aload_n 0, 1) := by decide +kernel
theorem dX10_init_34 : decode cX10_init 34 = .ok (.bipush 10, 2) := by decide +kernel
theorem dX10_init_36 : decode cX10_init 36 = .ok (.newarray .int, 2) := by decide +kernel
theorem dX10_init_38 : decode cX10_init 38 = .ok (.putfield 26, 3) := by decide +kernel
theorem dX10_init_41 : decode cX10_init 41 = .ok (.aload_n 0, 1) := by decide +kernel
theorem dX10_init_42 : decode cX10_init 42 = .ok (.sipush 1400, 3) := by decide +kernel
theorem dX10_init_45 : decode cX10_init 45 = .ok (.newarray .int, 2) := by decide +kernel
theorem dX10_init_47 : decode cX10_init 47 = .ok (.putfield 29, 3) := by decide +kernel
theorem dX10_init_50 : decode cX10_init 50 = .ok (.aload_n 0, 1) := by decide +kernel
theorem dX10_init_51 : decode cX10_init 51 = .ok (.bipush 8, 2) := by decide +kernel
theorem dX10_init_53 : decode cX10_init 53 = .ok (.newarray .boolean, 2) := by decide +kernel
theorem dX10_init_55 : decode cX10_init 55 = .ok (.putfield 32, 3) := by decide +kernel
theorem dX10_init_58 : decode cX10_init 58 = .ok (.aload_n 0, 1) := by decide +kernel
theorem dX10_init_59 : decode cX10_init 59 = .ok (.sipush 700, 3) := by decide +kernel
theorem dX10_init_62 : decode cX10_init 62 = .ok (.newarray .int, 2) := by decide +kernel
theorem dX10_init_64 : decode cX10_init 64 = .ok (.putfield 36, 3) := by decide +kernel
theorem dX10_init_67 : decode cX10_init 67 = .ok (.aload_n 0, 1) := by decide +kernel
theorem dX10_init_68 : decode cX10_init 68 = .ok (.iconst (-1), 1) := by decide +kernel
theorem dX10_init_69 : decode cX10_init 69 = .ok (.putfield 39, 3) := by decide +kernel
theorem dX10_init_72 : decode cX10_init 72 = .ok (.aload_n 0, 1) := by decide +kernel
theorem dX10_init_73 : decode cX10_init 73 = .ok (.iconst 3, 1) := by decide +kernel
theorem dX10_init_74 : decode cX10_init 74 = .ok (.newarray .int, 2) := by decide +kernel
theorem dX10_init_76 : decode cX10_init 76 = .ok (.putfield 42, 3) := by decide +kernel
theorem dX10_init_79 : decode cX10_init 79 = .ok (.aload_n 0, 1) := by decide +kernel
theorem dX10_init_80 : decode cX10_init 80 = .ok (.bipush 8, 2) := by decide +kernel
theorem dX10_init_82 : decode cX10_init 82 = .ok (.newarray .int, 2) := by decide +kernel
theorem dX10_init_84 : decode cX10_init 84 = .ok (.putfield 45, 3) := by decide +kernel
theorem dX10_init_87 : decode cX10_init 87 = .ok (.aload_n 0, 1) := by decide +kernel
theorem dX10_init_88 : decode cX10_init 88 = .ok (.bipush 10, 2) := by decide +kernel
theorem dX10_init_90 : decode cX10_init 90 = .ok (.newarray .int, 2) := by decide +kernel
theorem dX10_init_92 : decode cX10_init 92 = .ok (.putfield 48, 3) := by decide +kernel
theorem dX10_init_95 : decode cX10_init 95 = .ok (.aload_n 0, 1) := by decide +kernel
theorem dX10_init_96 : decode cX10_init 96 = .ok (.bipush 105, 2) := by decide +kernel
theorem dX10_init_98 : decode cX10_init 98 = .ok (.newarray .int, 2) := by decide +kernel
theorem dX10_init_100 : decode cX10_init 100 = .ok (.putfield 51, 3) := by decide +kernel
theorem dX10_init_103 : decode cX10_init 103 = .ok (.aload_n 0, 1) := by decide +kernel
theorem dX10_init_104 : decode cX10_init 104 = .ok (.sipush 1400, 3) := by decide +kernel
theorem dX10_init_107 : decode cX10_init 107 = .ok (.newarray .int, 2) := by decide +kernel
theorem dX10_init_109 : decode cX10_init 109 = .ok (.putfield 54, 3) := by decide +kernel
theorem dX10_init_112 : decode cX10_init 112 = .ok (.aload_n 0, 1) := by decide +kernel
theorem dX10_init_113 : decode cX10_init 113 = .ok (.sipush 950, 3) := by decide +kernel
theorem dX10_init_116 : decode cX10_init 116 = .ok (.newarray .int, 2) := by decide +kernel
theorem dX10_init_118 : decode cX10_init 118 = .ok (.putfield 57, 3) := by decide +kernel
theorem dX10_init_121 : decode cX10_init 121 = .ok (.aload_n 0, 1) := by decide +kernel
theorem dX10_init_122 : decode cX10_init 122 = .ok (.bipush 8, 2) := by decide +kernel
theorem dX10_init_124 : decode cX10_init 124 = .ok (.newarray .boolean, 2) := by decide +kernel
theorem dX10_init_126 : decode cX10_init 126 = .ok (.putfield 60, 3) := by decide +kernel
theorem dX10_init_129 : decode cX10_init 129 = .ok (.aload_n 0, 1) := by decide +kernel
theorem dX10_init_130 : decode cX10_init 130 = .ok (.bipush 9, 2) := by decide +kernel
theorem dX10_init_132 : decode cX10_init 132 = .ok (.newarray .boolean, 2) := by decide +kernel
theorem dX10_init_134 : decode cX10_init 134 = .ok (.putfield 63, 3) := by decide +kernel
theorem dX10_init_137 : decode cX10_init 137 = .ok (.aload_n 0, 1) := by decide +kernel
theorem dX10_init_138 : decode cX10_init 138 = .ok (.sipush 210, 3) := by decide +kernel
theorem dX10_init_141 : decode cX10_init 141 = .ok (.newarray .int, 2) := by decide +kernel
theorem dX10_init_143 : decode cX10_init 143 = .ok (.putfield 66, 3) := by decide +kernel
theorem dX10_init_146 : decode cX10_init 146 = .ok (.aload_n 0, 1) := by decide +kernel
theorem dX10_init_147 : decode cX10_init 147 = .ok (.sipush 4200, 3) := by decide +kernel
theorem dX10_init_150 : decode cX10_init 150 = .ok (.newarray .int, 2) := by decide +kernel
theorem dX10_init_152 : decode cX10_init 152 = .ok (.putfield 69, 3) := by decide +kernel
theorem dX10_init_155 : decode cX10_init 155 = .ok (.aload_n 0, 1) := by decide +kernel
theorem dX10_init_156 : decode cX10_init 156 = .ok (.bipush 9, 2) := by decide +kernel
theorem dX10_init_158 : decode cX10_init 158 = .ok (.newarray .int, 2) := by decide +kernel
theorem dX10_init_160 : decode cX10_init 160 = .ok (.putfield 72, 3) := by decide +kernel
theorem dX10_init_163 : decode cX10_init 163 = .ok (.aload_n 0, 1) := by decide +kernel
theorem dX10_init_164 : decode cX10_init 164 = .ok (.sipush 950, 3) := by decide +kernel
theorem dX10_init_167 : decode cX10_init 167 = .ok (.newarray .int, 2) := by decide +kernel
theorem dX10_init_169 : decode cX10_init 169 = .ok (.putfield 75, 3) := by decide +kernel
theorem dX10_init_172 : decode cX10_init 172 = .ok (.aload_n 0, 1) := by decide +kernel
theorem dX10_init_173 : decode cX10_init 173 = .ok (.sipush 2816, 3) := by decide +kernel
theorem dX10_init_176 : decode cX10_init 176 = .ok (.newarray .int, 2) := by decide +kernel
theorem dX10_init_178 : decode cX10_init 178 = .ok (.putfield 78, 3) := by decide +kernel
theorem dX10_init_181 : decode cX10_init 181 = .ok (.aload_n 0, 1) := by decide +kernel
theorem dX10_init_182 : decode cX10_init 182 = .ok (.bipush 6, 2) := by decide +kernel
theorem dX10_init_184 : decode cX10_init 184 = .ok (.newarray .int, 2) := by decide +kernel
theorem dX10_init_186 : decode cX10_init 186 = .ok (.putfield 81, 3) := by decide +kernel
theorem dX10_init_189 : decode cX10_init 189 = .ok (.aload_n 0, 1) := by decide +kernel
theorem dX10_init_190 : decode cX10_init 190 = .ok (.bipush 24, 2) := by decide +kernel
theorem dX10_init_192 : decode cX10_init 192 = .ok (.newarray .int, 2) := by decide +kernel
theorem dX10_init_194 : decode cX10_init 194 = .ok (.putfield 84, 3) := by decide +kernel
theorem dX10_init_197 : decode cX10_init 197 = .ok (.aload_n 0, 1) := by decide +kernel
theorem dX10_init_198 : decode cX10_init 198 = .ok (.bipush 20, 2) := by decide +kernel
theorem dX10_init_200 : decode cX10_init 200 = .ok (.newarray .int, 2) := by decide +kernel
theorem dX10_init_202 : decode cX10_init 202 = .ok (.putfield 87, 3) := by decide +kernel
theorem dX10_init_205 : decode cX10_init 205 = .ok (.aload_n 0, 1) := by decide +kernel
theorem dX10_init_206 : decode cX10_init 206 = .ok (.sipush 1600, 3) := by decide +kernel
theorem dX10_init_209 : decode cX10_init 209 = .ok (.newarray .int, 2) := by decide +kernel
theorem dX10_init_211 : decode cX10_init 211 = .ok (.putfield 90, 3) := by decide +kernel
theorem dX10_init_214 : decode cX10_init 214 = .ok (.aload_n 0, 1) := by decide +kernel
theorem dX10_init_215 : decode cX10_init 215 = .ok (.bipush 105, 2) := by decide +kernel
theorem dX10_init_217 : decode cX10_init 217 = .ok (.newarray .int, 2) := by decide +kernel
theorem dX10_init_219 : decode cX10_init 219 = .ok (.putfield 93, 3) := by decide +kernel
theorem dX10_init_222 : decode cX10_init 222 = .ok (.aload_n 0, 1) := by decide +kernel
theorem dX10_init_223 : decode cX10_init 223 = .ok (.sipush 4200, 3) := by decide +kernel
theorem dX10_init_226 : decode cX10_init 226 = .ok (.newarray .int, 2) := by decide +kernel
theorem dX10_init_228 : decode cX10_init 228 = .ok (.putfield 96, 3) := by decide +kernel
theorem dX10_init_231 : decode cX10_init 231 = .ok (.aload_n 0, 1) := by decide +kernel
theorem dX10_init_232 : decode cX10_init 232 = .ok (.bipush 24, 2) := by decide +kernel
theorem dX10_init_234 : decode cX10_init 234 = .ok (.newarray .int, 2) := by decide +kernel
theorem dX10_init_236 : decode cX10_init 236 = .ok (.putfield 99, 3) := by decide +kernel
theorem dX10_init_239 : decode cX10_init 239 = .ok (.return_, 1) := by decide +kernel
theorem dX10_thrown_0 : decode cX10_thrown 0 = .ok (.aload_n 0, 1) := by decide +kernel
theorem dX10_thrown_1 : decode cX10_thrown 1 = .ok (.getfield 102, 3) := by decide +kernel
theorem dX10_thrown_4 : decode cX10_thrown 4 = .ok (.ireturn, 1) := by decide +kernel
theorem dX10_right_0 : decode cX10_right 0 = .ok (.aload_n 0, 1) := by decide +kernel
theorem dX10_right_1 : decode cX10_right 1 = .ok (.getfield 102, 3) := by decide +kernel
theorem dX10_right_4 : decode cX10_right 4 = .ok (.ifCond .ne 12, 3) := by decide +kernel
theorem dX10_right_7 : decode cX10_right 7 = .ok (.iload_n 1, 1) := by decide +kernel
theorem dX10_right_8 : decode cX10_right 8 = .ok (.ifCond .ne 8, 3) := by decide +kernel
theorem dX10_right_11 : decode cX10_right 11 = .ok (.aload_n 0, 1) := by decide +kernel
theorem dX10_right_12 : decode cX10_right 12 = .ok (.iload_n 2, 1) := by decide +kernel
theorem dX10_right_13 : decode cX10_right 13 = .ok (.putfield 102, 3) := by decide +kernel
theorem dX10_right_16 : decode cX10_right 16 = .ok (.aload_n 0, 1) := by decide +kernel
theorem dX10_right_17 : decode cX10_right 17 = .ok (.getfield 102, 3) := by decide +kernel
theorem dX10_right_20 : decode cX10_right 20 = .ok (.ifCond .ne 7, 3) := by decide +kernel
theorem dX10_right_23 : decode cX10_right 23 = .ok (.iconst 1, 1) := by decide +kernel
theorem dX10_right_24 : decode cX10_right 24 = .ok (.goto 4, 3) := by decide +kernel
theorem dX10_right_27 : decode cX10_right 27 = .ok (.iconst 0, 1) := by decide +kernel
theorem dX10_right_28 : decode cX10_right 28 = .ok (.ireturn, 1) := by decide +kernel
theorem dX10_within_0 : decode cX10_within 0 = .ok (.iload_n 0, 1) := by decide +kernel
theorem dX10_within_1 : decode cX10_within 1 = .ok (.iload_n 1, 1) := by decide +kernel
theorem dX10_within_2 : decode cX10_within 2 = .ok (.if_icmp .lt 12, 3) := by decide +kernel
theorem dX10_within_5 : decode cX10_within 5 = .ok (.iload_n 0, 1) := by decide +kernel
theorem dX10_within_6 : decode cX10_within 6 = .ok (.iload_n 2, 1) := by decide +kernel
theorem dX10_within_7 : decode cX10_within 7 = .ok (.if_icmp .gt 7, 3) := by decide +kernel
theorem dX10_within_10 : decode cX10_within 10 = .ok (.iconst 1, 1) := by decide +kernel
theorem dX10_within_11 : decode cX10_within 11 = .ok (.goto 4, 3) := by decide +kernel
theorem dX10_within_14 : decode cX10_within 14 = .ok (.iconst 0, 1) := by decide +kernel
theorem dX10_within_15 : decode cX10_within 15 = .ok (.ireturn, 1) := by decide +kernel
theorem dX10_bounded_0 : decode cX10_bounded 0 = .ok (.iload_n 0, 1) := by decide +kernel
theorem dX10_bounded_1 : decode cX10_bounded 1 = .ok (.iload_n 1, 1) := by decide +kernel
theorem dX10_bounded_2 : decode cX10_bounded 2 = .ok (.if_icmp .ge 7, 3) := by decide +kernel
theorem dX10_bounded_5 : decode cX10_bounded 5 = .ok (.iload_n 1, 1) := by decide +kernel
theorem dX10_bounded_6 : decode cX10_bounded 6 = .ok (.goto 13, 3) := by decide +kernel
theorem dX10_bounded_9 : decode cX10_bounded 9 = .ok (.iload_n 0, 1) := by decide +kernel
theorem dX10_bounded_10 : decode cX10_bounded 10 = .ok (.iload_n 2, 1) := by decide +kernel
theorem dX10_bounded_11 : decode cX10_bounded 11 = .ok (.if_icmp .le 7, 3) := by decide +kernel
theorem dX10_bounded_14 : decode cX10_bounded 14 = .ok (.iload_n 2, 1) := by decide +kernel
theorem dX10_bounded_15 : decode cX10_bounded 15 = .ok (.goto 4, 3) := by decide +kernel
theorem dX10_bounded_18 : decode cX10_bounded 18 = .ok (.iload_n 0, 1) := by decide +kernel
theorem dX10_bounded_19 : decode cX10_bounded 19 = .ok (.ireturn, 1) := by decide +kernel
theorem dX10_lesser_0 : decode cX10_lesser 0 = .ok (.iload_n 0, 1) := by decide +kernel
theorem dX10_lesser_1 : decode cX10_lesser 1 = .ok (.iload_n 1, 1) := by decide +kernel
theorem dX10_lesser_2 : decode cX10_lesser 2 = .ok (.if_icmp .ge 7, 3) := by decide +kernel
theorem dX10_lesser_5 : decode cX10_lesser 5 = .ok (.iload_n 0, 1) := by decide +kernel
theorem dX10_lesser_6 : decode cX10_lesser 6 = .ok (.goto 4, 3) := by decide +kernel
theorem dX10_lesser_9 : decode cX10_lesser 9 = .ok (.iload_n 1, 1) := by decide +kernel
theorem dX10_lesser_10 : decode cX10_lesser 10 = .ok (.ireturn, 1) := by decide +kernel
theorem dX10_copies_0 : decode cX10_copies 0 = .ok (.iconst 0, 1) := by decide +kernel
theorem dX10_copies_1 : decode cX10_copies 1 = .ok (.istore_n 3, 1) := by decide +kernel
theorem dX10_copies_2 : decode cX10_copies 2 = .ok (.iload_n 3, 1) := by decide +kernel
theorem dX10_copies_3 : decode cX10_copies 3 = .ok (.aload_n 1, 1) := by decide +kernel
theorem dX10_copies_4 : decode cX10_copies 4 = .ok (.arraylength, 1) := by decide +kernel
theorem dX10_copies_5 : decode cX10_copies 5 = .ok (.if_icmp .ge 15, 3) := by decide +kernel
theorem dX10_copies_8 : decode cX10_copies 8 = .ok (.aload_n 2, 1) := by decide +kernel
theorem dX10_copies_9 : decode cX10_copies 9 = .ok (.iload_n 3, 1) := by decide +kernel
theorem dX10_copies_10 : decode cX10_copies 10 = .ok (.aload_n 1, 1) := by decide +kernel
theorem dX10_copies_11 : decode cX10_copies 11 = .ok (.iload_n 3, 1) := by decide +kernel
theorem dX10_copies_12 : decode cX10_copies 12 = .ok (.iaload, 1) := by decide +kernel
theorem dX10_copies_13 : decode cX10_copies 13 = .ok (.iastore, 1) := by decide +kernel
theorem dX10_copies_14 : decode cX10_copies 14 = .ok (.iinc 3 1, 3) := by decide +kernel
theorem dX10_copies_17 : decode cX10_copies 17 = .ok (.goto (-15), 3) := by decide +kernel
theorem dX10_copies_20 : decode cX10_copies 20 = .ok (.return_, 1) := by decide +kernel
theorem dX10_bits_0 : decode cX10_bits 0 = .ok (.iconst 0, 1) := by decide +kernel
theorem dX10_bits_1 : decode cX10_bits 1 = .ok (.istore_n 1, 1) := by decide +kernel
theorem dX10_bits_2 : decode cX10_bits 2 = .ok (.iconst 0, 1) := by decide +kernel
theorem dX10_bits_3 : decode cX10_bits 3 = .ok (.istore_n 2, 1) := by decide +kernel
theorem dX10_bits_4 : decode cX10_bits 4 = .ok (.iload_n 2, 1) := by decide +kernel
theorem dX10_bits_5 : decode cX10_bits 5 = .ok (.bipush 10, 2) := by decide +kernel
theorem dX10_bits_7 : decode cX10_bits 7 = .ok (.if_icmp .ge 17, 3) := by decide +kernel
theorem dX10_bits_10 : decode cX10_bits 10 = .ok (.iload_n 1, 1) := by decide +kernel
theorem dX10_bits_11 : decode cX10_bits 11 = .ok (.iload_n 0, 1) := by decide +kernel
theorem dX10_bits_12 : decode cX10_bits 12 = .ok (.iload_n 2, 1) := by decide +kernel
theorem dX10_bits_13 : decode cX10_bits 13 = .ok (.ishr, 1) := by decide +kernel
theorem dX10_bits_14 : decode cX10_bits 14 = .ok (.iconst 1, 1) := by decide +kernel
theorem dX10_bits_15 : decode cX10_bits 15 = .ok (.iand, 1) := by decide +kernel
theorem dX10_bits_16 : decode cX10_bits 16 = .ok (.iadd, 1) := by decide +kernel
theorem dX10_bits_17 : decode cX10_bits 17 = .ok (.istore_n 1, 1) := by decide +kernel
theorem dX10_bits_18 : decode cX10_bits 18 = .ok (.iinc 2 1, 3) := by decide +kernel
theorem dX10_bits_21 : decode cX10_bits 21 = .ok (.goto (-17), 3) := by decide +kernel
theorem dX10_bits_24 : decode cX10_bits 24 = .ok (.iload_n 1, 1) := by decide +kernel
theorem dX10_bits_25 : decode cX10_bits 25 = .ok (.ireturn, 1) := by decide +kernel
theorem dX10_feed_0 : decode cX10_feed 0 = .ok (.aload_n 0, 1) := by decide +kernel
theorem dX10_feed_1 : decode cX10_feed 1 = .ok (.iconst 0, 1) := by decide +kernel
theorem dX10_feed_2 : decode cX10_feed 2 = .ok (.putfield 102, 3) := by decide +kernel
theorem dX10_feed_5 : decode cX10_feed 5 = .ok (.aload_n 0, 1) := by decide +kernel
theorem dX10_feed_6 : decode cX10_feed 6 = .ok (.getfield 105, 3) := by decide +kernel
theorem dX10_feed_9 : decode cX10_feed 9 = .ok (.bipush 20, 2) := by decide +kernel
theorem dX10_feed_11 : decode cX10_feed 11 = .ok (.iadd, 1) := by decide +kernel
theorem dX10_feed_12 : decode cX10_feed 12 = .ok (.sipush 700, 3) := by decide +kernel
theorem dX10_feed_15 : decode cX10_feed 15 = .ok (.if_icmp .le 5, 3) := by decide +kernel
theorem dX10_feed_18 : decode cX10_feed 18 = .ok (.iconst (-1), 1) := by decide +kernel
theorem dX10_feed_19 : decode cX10_feed 19 = .ok (.ireturn, 1) := by decide +kernel
theorem dX10_feed_20 : decode cX10_feed 20 = .ok (.aload_n 0, 1) := by decide +kernel
theorem dX10_feed_21 : decode cX10_feed 21 = .ok (.iload_n 1, 1) := by decide +kernel
theorem dX10_feed_22 : decode cX10_feed 22 = .ok (.invokevirtual 108, 3) := by decide +kernel
theorem dX10_feed_25 : decode cX10_feed 25 = .ok (.aload_n 0, 1) := by decide +kernel
theorem dX10_feed_26 : decode cX10_feed 26 = .ok (.iload_n 2, 1) := by decide +kernel
theorem dX10_feed_27 : decode cX10_feed 27 = .ok (.invokevirtual 108, 3) := by decide +kernel
theorem dX10_feed_30 : decode cX10_feed 30 = .ok (.aload_n 0, 1) := by decide +kernel
theorem dX10_feed_31 : decode cX10_feed 31 = .ok (.iload_n 3, 1) := by decide +kernel
theorem dX10_feed_32 : decode cX10_feed 32 = .ok (.invokevirtual 108, 3) := by decide +kernel
theorem dX10_feed_35 : decode cX10_feed 35 = .ok (.aload_n 0, 1) := by decide +kernel
theorem dX10_feed_36 : decode cX10_feed 36 = .ok (.iload 4, 2) := by decide +kernel
theorem dX10_feed_38 : decode cX10_feed 38 = .ok (.invokevirtual 108, 3) := by decide +kernel
theorem dX10_feed_41 : decode cX10_feed 41 = .ok (.aload_n 0, 1) := by decide +kernel
theorem dX10_feed_42 : decode cX10_feed 42 = .ok (.iload 5, 2) := by decide +kernel
theorem dX10_feed_44 : decode cX10_feed 44 = .ok (.invokevirtual 108, 3) := by decide +kernel
theorem dX10_feed_47 : decode cX10_feed 47 = .ok (.aload_n 0, 1) := by decide +kernel
theorem dX10_feed_48 : decode cX10_feed 48 = .ok (.getfield 105, 3) := by decide +kernel
theorem dX10_feed_51 : decode cX10_feed 51 = .ok (.ireturn, 1) := by decide +kernel
theorem dX10_lays_0 : decode cX10_lays 0 = .ok (.bipush 24, 2) := by decide +kernel
theorem dX10_lays_2 : decode cX10_lays 2 = .ok (.istore_n 2, 1) := by decide +kernel
theorem dX10_lays_3 : decode cX10_lays 3 = .ok (.iload_n 2, 1) := by decide +kernel
theorem dX10_lays_4 : decode cX10_lays 4 = .ok (.ifCond .lt 35, 3) := by decide +kernel
theorem dX10_lays_7 : decode cX10_lays 7 = .ok (.aload_n 0, 1) := by decide +kernel
theorem dX10_lays_8 : decode cX10_lays 8 = .ok (.getfield 36, 3) := by decide +kernel
theorem dX10_lays_11 : decode cX10_lays 11 = .ok (.aload_n 0, 1) := by decide +kernel
theorem dX10_lays_12 : decode cX10_lays 12 = .ok (.getfield 105, 3) := by decide +kernel
theorem dX10_lays_15 : decode cX10_lays 15 = .ok (.iload_n 1, 1) := by decide +kernel
theorem dX10_lays_16 : decode cX10_lays 16 = .ok (.iload_n 2, 1) := by decide +kernel
theorem dX10_lays_17 : decode cX10_lays 17 = .ok (.ishr, 1) := by decide +kernel
theorem dX10_lays_18 : decode cX10_lays 18 = .ok (.sipush 255, 3) := by decide +kernel
theorem dX10_lays_21 : decode cX10_lays 21 = .ok (.iand, 1) := by decide +kernel
theorem dX10_lays_22 : decode cX10_lays 22 = .ok (.iastore, 1) := by decide +kernel
theorem dX10_lays_23 : decode cX10_lays 23 = .ok (.aload_n 0, 1) := by decide +kernel
theorem dX10_lays_24 : decode cX10_lays 24 = .ok (.dup, 1) := by decide +kernel
theorem dX10_lays_25 : decode cX10_lays 25 = .ok (.getfield 105, 3) := by decide +kernel
theorem dX10_lays_28 : decode cX10_lays 28 = .ok (.iconst 1, 1) := by decide +kernel
theorem dX10_lays_29 : decode cX10_lays 29 = .ok (.iadd, 1) := by decide +kernel
theorem dX10_lays_30 : decode cX10_lays 30 = .ok (.putfield 105, 3) := by decide +kernel
theorem dX10_lays_33 : decode cX10_lays 33 = .ok (.iinc 2 (-8), 3) := by decide +kernel
theorem dX10_lays_36 : decode cX10_lays 36 = .ok (.goto (-33), 3) := by decide +kernel
theorem dX10_lays_39 : decode cX10_lays 39 = .ok (.return_, 1) := by decide +kernel
theorem dX10_byteAt_0 : decode cX10_byteAt 0 = .ok (.iload_n 1, 1) := by decide +kernel
theorem dX10_byteAt_1 : decode cX10_byteAt 1 = .ok (.aload_n 0, 1) := by decide +kernel
theorem dX10_byteAt_2 : decode cX10_byteAt 2 = .ok (.getfield 112, 3) := by decide +kernel
theorem dX10_byteAt_5 : decode cX10_byteAt 5 = .ok (.if_icmp .ge 12, 3) := by decide +kernel
theorem dX10_byteAt_8 : decode cX10_byteAt 8 = .ok (.aload_n 0, 1) := by decide +kernel
theorem dX10_byteAt_9 : decode cX10_byteAt 9 = .ok (.getfield 36, 3) := by decide +kernel
theorem dX10_byteAt_12 : decode cX10_byteAt 12 = .ok (.iload_n 1, 1) := by decide +kernel
theorem dX10_byteAt_13 : decode cX10_byteAt 13 = .ok (.iaload, 1) := by decide +kernel
theorem dX10_byteAt_14 : decode cX10_byteAt 14 = .ok (.goto 4, 3) := by decide +kernel
theorem dX10_byteAt_17 : decode cX10_byteAt 17 = .ok (.iconst 0, 1) := by decide +kernel
theorem dX10_byteAt_18 : decode cX10_byteAt 18 = .ok (.ireturn, 1) := by decide +kernel
theorem dX10_isLetter_0 : decode cX10_isLetter 0 = .ok (.iload_n 0, 1) := by decide +kernel
theorem dX10_isLetter_1 : decode cX10_isLetter 1 = .ok (.bipush 97, 2) := by decide +kernel
theorem dX10_isLetter_3 : decode cX10_isLetter 3 = .ok (.if_icmp .lt 13, 3) := by decide +kernel
theorem dX10_isLetter_6 : decode cX10_isLetter 6 = .ok (.iload_n 0, 1) := by decide +kernel
theorem dX10_isLetter_7 : decode cX10_isLetter 7 = .ok (.bipush 122, 2) := by decide +kernel
theorem dX10_isLetter_9 : decode cX10_isLetter 9 = .ok (.if_icmp .gt 7, 3) := by decide +kernel
theorem dX10_isLetter_12 : decode cX10_isLetter 12 = .ok (.iconst 1, 1) := by decide +kernel
theorem dX10_isLetter_13 : decode cX10_isLetter 13 = .ok (.goto 4, 3) := by decide +kernel
theorem dX10_isLetter_16 : decode cX10_isLetter 16 = .ok (.iconst 0, 1) := by decide +kernel
theorem dX10_isLetter_17 : decode cX10_isLetter 17 = .ok (.ireturn, 1) := by decide +kernel
theorem dX10_isDigit_0 : decode cX10_isDigit 0 = .ok (.iload_n 0, 1) := by decide +kernel
theorem dX10_isDigit_1 : decode cX10_isDigit 1 = .ok (.bipush 48, 2) := by decide +kernel
theorem dX10_isDigit_3 : decode cX10_isDigit 3 = .ok (.if_icmp .lt 13, 3) := by decide +kernel
theorem dX10_isDigit_6 : decode cX10_isDigit 6 = .ok (.iload_n 0, 1) := by decide +kernel
theorem dX10_isDigit_7 : decode cX10_isDigit 7 = .ok (.bipush 57, 2) := by decide +kernel
theorem dX10_isDigit_9 : decode cX10_isDigit 9 = .ok (.if_icmp .gt 7, 3) := by decide +kernel
theorem dX10_isDigit_12 : decode cX10_isDigit 12 = .ok (.iconst 1, 1) := by decide +kernel
theorem dX10_isDigit_13 : decode cX10_isDigit 13 = .ok (.goto 4, 3) := by decide +kernel
theorem dX10_isDigit_16 : decode cX10_isDigit 16 = .ok (.iconst 0, 1) := by decide +kernel
theorem dX10_isDigit_17 : decode cX10_isDigit 17 = .ok (.ireturn, 1) := by decide +kernel
theorem dX10_goes_0 : decode cX10_goes 0 = .ok (.aload_n 0, 1) := by decide +kernel
theorem dX10_goes_1 : decode cX10_goes 1 = .ok (.getfield 115, 3) := by decide +kernel
theorem dX10_goes_4 : decode cX10_goes 4 = .ok (.aload_n 0, 1) := by decide +kernel
theorem dX10_goes_5 : decode cX10_goes 5 = .ok (.getfield 112, 3) := by decide +kernel
theorem dX10_goes_8 : decode cX10_goes 8 = .ok (.if_icmp .ge 42, 3) := by decide +kernel
theorem dX10_goes_11 : decode cX10_goes 11 = .ok (.aload_n 0, 1) := by decide +kernel
theorem dX10_goes_12 : decode cX10_goes 12 = .ok (.aload_n 0, 1) := by decide +kernel
theorem dX10_goes_13 : decode cX10_goes 13 = .ok (.getfield 115, 3) := by decide +kernel
theorem dX10_goes_16 : decode cX10_goes 16 = .ok (.invokevirtual 118, 3) := by decide +kernel
theorem dX10_goes_19 : decode cX10_goes 19 = .ok (.bipush 32, 2) := by decide +kernel
theorem dX10_goes_21 : decode cX10_goes 21 = .ok (.if_icmp .eq 16, 3) := by decide +kernel
theorem dX10_goes_24 : decode cX10_goes 24 = .ok (.aload_n 0, 1) := by decide +kernel
theorem dX10_goes_25 : decode cX10_goes 25 = .ok (.aload_n 0, 1) := by decide +kernel
theorem dX10_goes_26 : decode cX10_goes 26 = .ok (.getfield 115, 3) := by decide +kernel
theorem dX10_goes_29 : decode cX10_goes 29 = .ok (.invokevirtual 118, 3) := by decide +kernel
theorem dX10_goes_32 : decode cX10_goes 32 = .ok (.bipush 10, 2) := by decide +kernel
theorem dX10_goes_34 : decode cX10_goes 34 = .ok (.if_icmp .ne 16, 3) := by decide +kernel
theorem dX10_goes_37 : decode cX10_goes 37 = .ok (.aload_n 0, 1) := by decide +kernel
theorem dX10_goes_38 : decode cX10_goes 38 = .ok (.dup, 1) := by decide +kernel
theorem dX10_goes_39 : decode cX10_goes 39 = .ok (.getfield 115, 3) := by decide +kernel
theorem dX10_goes_42 : decode cX10_goes 42 = .ok (.iconst 1, 1) := by decide +kernel
theorem dX10_goes_43 : decode cX10_goes 43 = .ok (.iadd, 1) := by decide +kernel
theorem dX10_goes_44 : decode cX10_goes 44 = .ok (.putfield 115, 3) := by decide +kernel
theorem dX10_goes_47 : decode cX10_goes 47 = .ok (.goto (-47), 3) := by decide +kernel
theorem dX10_goes_50 : decode cX10_goes 50 = .ok (.aload_n 0, 1) := by decide +kernel
theorem dX10_goes_51 : decode cX10_goes 51 = .ok (.aload_n 0, 1) := by decide +kernel
theorem dX10_goes_52 : decode cX10_goes 52 = .ok (.getfield 115, 3) := by decide +kernel
theorem dX10_goes_55 : decode cX10_goes 55 = .ok (.putfield 122, 3) := by decide +kernel
theorem dX10_goes_58 : decode cX10_goes 58 = .ok (.aload_n 0, 1) := by decide +kernel
theorem dX10_goes_59 : decode cX10_goes 59 = .ok (.lconst 0, 1) := by decide +kernel
theorem dX10_goes_60 : decode cX10_goes 60 = .ok (.putfield 125, 3) := by decide +kernel
theorem dX10_goes_63 : decode cX10_goes 63 = .ok (.aload_n 0, 1) := by decide +kernel
theorem dX10_goes_64 : decode cX10_goes 64 = .ok (.iconst 0, 1) := by decide +kernel
theorem dX10_goes_65 : decode cX10_goes 65 = .ok (.putfield 129, 3) := by decide +kernel
theorem dX10_goes_68 : decode cX10_goes 68 = .ok (.aload_n 0, 1) := by decide +kernel
theorem dX10_goes_69 : decode cX10_goes 69 = .ok (.aload_n 0, 1) := by decide +kernel
theorem dX10_goes_70 : decode cX10_goes 70 = .ok (.getfield 115, 3) := by decide +kernel
theorem dX10_goes_73 : decode cX10_goes 73 = .ok (.invokevirtual 118, 3) := by decide +kernel
theorem dX10_goes_76 : decode cX10_goes 76 = .ok (.istore_n 1, 1) := by decide +kernel
theorem dX10_goes_77 : decode cX10_goes 77 = .ok (.aload_n 0, 1) := by decide +kernel
theorem dX10_goes_78 : decode cX10_goes 78 = .ok (.iload_n 1, 1) := by decide +kernel
theorem dX10_goes_79 : decode cX10_goes 79 = .ok (.putfield 132, 3) := by decide +kernel
theorem dX10_goes_82 : decode cX10_goes 82 = .ok (.aload_n 0, 1) := by decide +kernel
theorem dX10_goes_83 : decode cX10_goes 83 = .ok (.getfield 115, 3) := by decide +kernel
theorem dX10_goes_86 : decode cX10_goes 86 = .ok (.aload_n 0, 1) := by decide +kernel
theorem dX10_goes_87 : decode cX10_goes 87 = .ok (.getfield 112, 3) := by decide +kernel
theorem dX10_goes_90 : decode cX10_goes 90 = .ok (.if_icmp .lt 11, 3) := by decide +kernel
theorem dX10_goes_93 : decode cX10_goes 93 = .ok (.aload_n 0, 1) := by decide +kernel
theorem dX10_goes_94 : decode cX10_goes 94 = .ok (.iconst 0, 1) := by decide +kernel
theorem dX10_goes_95 : decode cX10_goes 95 = .ok (.putfield 135, 3) := by decide +kernel
theorem dX10_goes_98 : decode cX10_goes 98 = .ok (.goto 233, 3) := by decide +kernel
theorem dX10_goes_101 : decode cX10_goes 101 = .ok (.iload_n 1, 1) := by decide +kernel
theorem dX10_goes_102 : decode cX10_goes 102 = .ok (.invokestatic 138, 3) := by decide +kernel
theorem dX10_goes_105 : decode cX10_goes 105 = .ok (.ifCond .eq 75, 3) := by decide +kernel
theorem dX10_goes_108 : decode cX10_goes 108 = .ok (.aload_n 0, 1) := by decide +kernel
theorem dX10_goes_109 : decode cX10_goes 109 = .ok (.aload_n 0, 1) := by decide +kernel
theorem dX10_goes_110 : decode cX10_goes 110 = .ok (.getfield 115, 3) := by decide +kernel
theorem dX10_goes_113 : decode cX10_goes 113 = .ok (.invokevirtual 118, 3) := by decide +kernel
theorem dX10_goes_116 : decode cX10_goes 116 = .ok (.invokestatic 138, 3) := by decide +kernel
theorem dX10_goes_119 : decode cX10_goes 119 = .ok (.ifCond .eq 53, 3) := by decide +kernel
theorem dX10_goes_122 : decode cX10_goes 122 = .ok (.aload_n 0, 1) := by decide +kernel
theorem dX10_goes_123 : decode cX10_goes 123 = .ok (.getfield 115, 3) := by decide +kernel
theorem dX10_goes_126 : decode cX10_goes 126 = .ok (.aload_n 0, 1) := by decide +kernel
theorem dX10_goes_127 : decode cX10_goes 127 = .ok (.getfield 122, 3) := by decide +kernel
theorem dX10_goes_130 : decode cX10_goes 130 = .ok (.isub, 1) := by decide +kernel
theorem dX10_goes_131 : decode cX10_goes 131 = .ok (.bipush 7, 2) := by decide +kernel
theorem dX10_goes_133 : decode cX10_goes 133 = .ok (.if_icmp .ge 26, 3) := by decide +kernel
theorem dX10_goes_136 : decode cX10_goes 136 = .ok (.aload_n 0, 1) := by decide +kernel
theorem dX10_goes_137 : decode cX10_goes 137 = .ok (.aload_n 0, 1) := by decide +kernel
theorem dX10_goes_138 : decode cX10_goes 138 = .ok (.getfield 125, 3) := by decide +kernel
theorem dX10_goes_141 : decode cX10_goes 141 = .ok (.iconst 5, 1) := by decide +kernel
theorem dX10_goes_142 : decode cX10_goes 142 = .ok (.lshl, 1) := by decide +kernel
theorem dX10_goes_143 : decode cX10_goes 143 = .ok (.aload_n 0, 1) := by decide +kernel
theorem dX10_goes_144 : decode cX10_goes 144 = .ok (.aload_n 0, 1) := by decide +kernel
theorem dX10_goes_145 : decode cX10_goes 145 = .ok (.getfield 115, 3) := by decide +kernel
theorem dX10_goes_148 : decode cX10_goes 148 = .ok (.invokevirtual 118, 3) := by decide +kernel
theorem dX10_goes_151 : decode cX10_goes 151 = .ok (.bipush 96, 2) := by decide +kernel
theorem dX10_goes_153 : decode cX10_goes 153 = .ok (.isub, 1) := by decide +kernel
theorem dX10_goes_154 : decode cX10_goes 154 = .ok (.i2l, 1) := by decide +kernel
theorem dX10_goes_155 : decode cX10_goes 155 = .ok (.lor, 1) := by decide +kernel
theorem dX10_goes_156 : decode cX10_goes 156 = .ok (.putfield 125, 3) := by decide +kernel
theorem dX10_goes_159 : decode cX10_goes 159 = .ok (.aload_n 0, 1) := by decide +kernel
theorem dX10_goes_160 : decode cX10_goes 160 = .ok (.dup, 1) := by decide +kernel
theorem dX10_goes_161 : decode cX10_goes 161 = .ok (.getfield 115, 3) := by decide +kernel
theorem dX10_goes_164 : decode cX10_goes 164 = .ok (.iconst 1, 1) := by decide +kernel
theorem dX10_goes_165 : decode cX10_goes 165 = .ok (.iadd, 1) := by decide +kernel
theorem dX10_goes_166 : decode cX10_goes 166 = .ok (.putfield 115, 3) := by decide +kernel
theorem dX10_goes_169 : decode cX10_goes 169 = .ok (.goto (-61), 3) := by decide +kernel
theorem dX10_goes_172 : decode cX10_goes 172 = .ok (.aload_n 0, 1) := by decide +kernel
theorem dX10_goes_173 : decode cX10_goes 173 = .ok (.iconst 1, 1) := by decide +kernel
theorem dX10_goes_174 : decode cX10_goes 174 = .ok (.putfield 135, 3) := by decide +kernel
theorem dX10_goes_177 : decode cX10_goes 177 = .ok (.goto 154, 3) := by decide +kernel
theorem dX10_goes_180 : decode cX10_goes 180 = .ok (.iload_n 1, 1) := by decide +kernel
theorem dX10_goes_181 : decode cX10_goes 181 = .ok (.invokestatic 142, 3) := by decide +kernel
theorem dX10_goes_184 : decode cX10_goes 184 = .ok (.ifCond .eq 74, 3) := by decide +kernel
theorem dX10_goes_187 : decode cX10_goes 187 = .ok (.aload_n 0, 1) := by decide +kernel
theorem dX10_goes_188 : decode cX10_goes 188 = .ok (.aload_n 0, 1) := by decide +kernel
theorem dX10_goes_189 : decode cX10_goes 189 = .ok (.getfield 115, 3) := by decide +kernel
theorem dX10_goes_192 : decode cX10_goes 192 = .ok (.invokevirtual 118, 3) := by decide +kernel
theorem dX10_goes_195 : decode cX10_goes 195 = .ok (.invokestatic 142, 3) := by decide +kernel
theorem dX10_goes_198 : decode cX10_goes 198 = .ok (.ifCond .eq 52, 3) := by decide +kernel
theorem dX10_goes_201 : decode cX10_goes 201 = .ok (.aload_n 0, 1) := by decide +kernel
theorem dX10_goes_202 : decode cX10_goes 202 = .ok (.getfield 115, 3) := by decide +kernel
theorem dX10_goes_205 : decode cX10_goes 205 = .ok (.aload_n 0, 1) := by decide +kernel
theorem dX10_goes_206 : decode cX10_goes 206 = .ok (.getfield 122, 3) := by decide +kernel
theorem dX10_goes_209 : decode cX10_goes 209 = .ok (.isub, 1) := by decide +kernel
theorem dX10_goes_210 : decode cX10_goes 210 = .ok (.iconst 4, 1) := by decide +kernel
theorem dX10_goes_211 : decode cX10_goes 211 = .ok (.if_icmp .ge 26, 3) := by decide +kernel
theorem dX10_goes_214 : decode cX10_goes 214 = .ok (.aload_n 0, 1) := by decide +kernel
theorem dX10_goes_215 : decode cX10_goes 215 = .ok (.bipush 10, 2) := by decide +kernel
theorem dX10_goes_217 : decode cX10_goes 217 = .ok (.aload_n 0, 1) := by decide +kernel
theorem dX10_goes_218 : decode cX10_goes 218 = .ok (.getfield 129, 3) := by decide +kernel
theorem dX10_goes_221 : decode cX10_goes 221 = .ok (.imul, 1) := by decide +kernel
theorem dX10_goes_222 : decode cX10_goes 222 = .ok (.aload_n 0, 1) := by decide +kernel
theorem dX10_goes_223 : decode cX10_goes 223 = .ok (.aload_n 0, 1) := by decide +kernel
theorem dX10_goes_224 : decode cX10_goes 224 = .ok (.getfield 115, 3) := by decide +kernel
theorem dX10_goes_227 : decode cX10_goes 227 = .ok (.invokevirtual 118, 3) := by decide +kernel
theorem dX10_goes_230 : decode cX10_goes 230 = .ok (.iadd, 1) := by decide +kernel
theorem dX10_goes_231 : decode cX10_goes 231 = .ok (.bipush 48, 2) := by decide +kernel
theorem dX10_goes_233 : decode cX10_goes 233 = .ok (.isub, 1) := by decide +kernel
theorem dX10_goes_234 : decode cX10_goes 234 = .ok (.putfield 129, 3) := by decide +kernel
theorem dX10_goes_237 : decode cX10_goes 237 = .ok (.aload_n 0, 1) := by decide +kernel
theorem dX10_goes_238 : decode cX10_goes 238 = .ok (.dup, 1) := by decide +kernel
theorem dX10_goes_239 : decode cX10_goes 239 = .ok (.getfield 115, 3) := by decide +kernel
theorem dX10_goes_242 : decode cX10_goes 242 = .ok (.iconst 1, 1) := by decide +kernel
theorem dX10_goes_243 : decode cX10_goes 243 = .ok (.iadd, 1) := by decide +kernel
theorem dX10_goes_244 : decode cX10_goes 244 = .ok (.putfield 115, 3) := by decide +kernel
theorem dX10_goes_247 : decode cX10_goes 247 = .ok (.goto (-60), 3) := by decide +kernel
theorem dX10_goes_250 : decode cX10_goes 250 = .ok (.aload_n 0, 1) := by decide +kernel
theorem dX10_goes_251 : decode cX10_goes 251 = .ok (.iconst 2, 1) := by decide +kernel
theorem dX10_goes_252 : decode cX10_goes 252 = .ok (.putfield 135, 3) := by decide +kernel
theorem dX10_goes_255 : decode cX10_goes 255 = .ok (.goto 76, 3) := by decide +kernel
theorem dX10_goes_258 : decode cX10_goes 258 = .ok (.aload_n 0, 1) := by decide +kernel
theorem dX10_goes_259 : decode cX10_goes 259 = .ok (.dup, 1) := by decide +kernel
theorem dX10_goes_260 : decode cX10_goes 260 = .ok (.getfield 115, 3) := by decide +kernel
theorem dX10_goes_263 : decode cX10_goes 263 = .ok (.iconst 1, 1) := by decide +kernel
theorem dX10_goes_264 : decode cX10_goes 264 = .ok (.iadd, 1) := by decide +kernel
theorem dX10_goes_265 : decode cX10_goes 265 = .ok (.putfield 115, 3) := by decide +kernel
theorem dX10_goes_268 : decode cX10_goes 268 = .ok (.aload_n 0, 1) := by decide +kernel
theorem dX10_goes_269 : decode cX10_goes 269 = .ok (.iload_n 1, 1) := by decide +kernel
theorem dX10_goes_270 : decode cX10_goes 270 = .ok (.bipush 59, 2) := by decide +kernel
theorem dX10_goes_272 : decode cX10_goes 272 = .ok (.if_icmp .eq 51, 3) := by decide +kernel
theorem dX10_goes_275 : decode cX10_goes 275 = .ok (.iload_n 1, 1) := by decide +kernel
theorem dX10_goes_276 : decode cX10_goes 276 = .ok (.bipush 40, 2) := by decide +kernel
theorem dX10_goes_278 : decode cX10_goes 278 = .ok (.if_icmp .eq 45, 3) := by decide +kernel
theorem dX10_goes_281 : decode cX10_goes 281 = .ok (.iload_n 1, 1) := by decide +kernel
theorem dX10_goes_282 : decode cX10_goes 282 = .ok (.bipush 41, 2) := by decide +kernel
theorem dX10_goes_284 : decode cX10_goes 284 = .ok (.if_icmp .eq 39, 3) := by decide +kernel
theorem dX10_goes_287 : decode cX10_goes 287 = .ok (.iload_n 1, 1) := by decide +kernel
theorem dX10_goes_288 : decode cX10_goes 288 = .ok (.bipush 43, 2) := by decide +kernel
theorem dX10_goes_290 : decode cX10_goes 290 = .ok (.if_icmp .eq 33, 3) := by decide +kernel
theorem dX10_goes_293 : decode cX10_goes 293 = .ok (.iload_n 1, 1) := by decide +kernel
theorem dX10_goes_294 : decode cX10_goes 294 = .ok (.bipush 45, 2) := by decide +kernel
theorem dX10_goes_296 : decode cX10_goes 296 = .ok (.if_icmp .eq 27, 3) := by decide +kernel
theorem dX10_goes_299 : decode cX10_goes 299 = .ok (.iload_n 1, 1) := by decide +kernel
theorem dX10_goes_300 : decode cX10_goes 300 = .ok (.bipush 42, 2) := by decide +kernel
theorem dX10_goes_302 : decode cX10_goes 302 = .ok (.if_icmp .eq 21, 3) := by decide +kernel
theorem dX10_goes_305 : decode cX10_goes 305 = .ok (.iload_n 1, 1) := by decide +kernel
theorem dX10_goes_306 : decode cX10_goes 306 = .ok (.bipush 47, 2) := by decide +kernel
theorem dX10_goes_308 : decode cX10_goes 308 = .ok (.if_icmp .eq 15, 3) := by decide +kernel
theorem dX10_goes_311 : decode cX10_goes 311 = .ok (.iload_n 1, 1) := by decide +kernel
theorem dX10_goes_312 : decode cX10_goes 312 = .ok (.bipush 60, 2) := by decide +kernel
theorem dX10_goes_314 : decode cX10_goes 314 = .ok (.if_icmp .eq 9, 3) := by decide +kernel
theorem dX10_goes_317 : decode cX10_goes 317 = .ok (.iload_n 1, 1) := by decide +kernel
theorem dX10_goes_318 : decode cX10_goes 318 = .ok (.bipush 61, 2) := by decide +kernel
theorem dX10_goes_320 : decode cX10_goes 320 = .ok (.if_icmp .ne 7, 3) := by decide +kernel
theorem dX10_goes_323 : decode cX10_goes 323 = .ok (.iconst 3, 1) := by decide +kernel
theorem dX10_goes_324 : decode cX10_goes 324 = .ok (.goto 4, 3) := by decide +kernel
theorem dX10_goes_327 : decode cX10_goes 327 = .ok (.iconst 4, 1) := by decide +kernel
theorem dX10_goes_328 : decode cX10_goes 328 = .ok (.putfield 135, 3) := by decide +kernel
theorem dX10_goes_331 : decode cX10_goes 331 = .ok (.aload_n 0, 1) := by decide +kernel
theorem dX10_goes_332 : decode cX10_goes 332 = .ok (.aload_n 0, 1) := by decide +kernel
theorem dX10_goes_333 : decode cX10_goes 333 = .ok (.getfield 115, 3) := by decide +kernel
theorem dX10_goes_336 : decode cX10_goes 336 = .ok (.aload_n 0, 1) := by decide +kernel
theorem dX10_goes_337 : decode cX10_goes 337 = .ok (.getfield 122, 3) := by decide +kernel
theorem dX10_goes_340 : decode cX10_goes 340 = .ok (.isub, 1) := by decide +kernel
theorem dX10_goes_341 : decode cX10_goes 341 = .ok (.putfield 145, 3) := by decide +kernel
theorem dX10_goes_344 : decode cX10_goes 344 = .ok (.return_, 1) := by decide +kernel
theorem dX10_spelled_0 : decode cX10_spelled 0 = .ok (.iload_n 0, 1) := by decide +kernel
theorem dX10_spelled_1 : decode cX10_spelled 1 = .ok (.i2l, 1) := by decide +kernel
theorem dX10_spelled_2 : decode cX10_spelled 2 = .ok (.ldc2_w 148, 3) := by decide +kernel
theorem dX10_spelled_5 : decode cX10_spelled 5 = .ok (.lsub, 1) := by decide +kernel
theorem dX10_spelled_6 : decode cX10_spelled 6 = .ok (.iconst 5, 1) := by decide +kernel
theorem dX10_spelled_7 : decode cX10_spelled 7 = .ok (.lshl, 1) := by decide +kernel
theorem dX10_spelled_8 : decode cX10_spelled 8 = .ok (.iload_n 1, 1) := by decide +kernel
theorem dX10_spelled_9 : decode cX10_spelled 9 = .ok (.bipush 96, 2) := by decide +kernel
theorem dX10_spelled_11 : decode cX10_spelled 11 = .ok (.isub, 1) := by decide +kernel
theorem dX10_spelled_12 : decode cX10_spelled 12 = .ok (.i2l, 1) := by decide +kernel
theorem dX10_spelled_13 : decode cX10_spelled 13 = .ok (.lor, 1) := by decide +kernel
theorem dX10_spelled_14 : decode cX10_spelled 14 = .ok (.lstore 7, 2) := by decide +kernel
theorem dX10_spelled_16 : decode cX10_spelled 16 = .ok (.iload_n 2, 1) := by decide +kernel
theorem dX10_spelled_17 : decode cX10_spelled 17 = .ok (.ifCond .eq 15, 3) := by decide +kernel
theorem dX10_spelled_20 : decode cX10_spelled 20 = .ok (.lload 7, 2) := by decide +kernel
theorem dX10_spelled_22 : decode cX10_spelled 22 = .ok (.iconst 5, 1) := by decide +kernel
theorem dX10_spelled_23 : decode cX10_spelled 23 = .ok (.lshl, 1) := by decide +kernel
theorem dX10_spelled_24 : decode cX10_spelled 24 = .ok (.iload_n 2, 1) := by decide +kernel
theorem dX10_spelled_25 : decode cX10_spelled 25 = .ok (.bipush 96, 2) := by decide +kernel
theorem dX10_spelled_27 : decode cX10_spelled 27 = .ok (.isub, 1) := by decide +kernel
theorem dX10_spelled_28 : decode cX10_spelled 28 = .ok (.i2l, 1) := by decide +kernel
theorem dX10_spelled_29 : decode cX10_spelled 29 = .ok (.lor, 1) := by decide +kernel
theorem dX10_spelled_30 : decode cX10_spelled 30 = .ok (.lstore 7, 2) := by decide +kernel
theorem dX10_spelled_32 : decode cX10_spelled 32 = .ok (.iload_n 3, 1) := by decide +kernel
theorem dX10_spelled_33 : decode cX10_spelled 33 = .ok (.ifCond .eq 15, 3) := by decide +kernel
theorem dX10_spelled_36 : decode cX10_spelled 36 = .ok (.lload 7, 2) := by decide +kernel
theorem dX10_spelled_38 : decode cX10_spelled 38 = .ok (.iconst 5, 1) := by decide +kernel
theorem dX10_spelled_39 : decode cX10_spelled 39 = .ok (.lshl, 1) := by decide +kernel
theorem dX10_spelled_40 : decode cX10_spelled 40 = .ok (.iload_n 3, 1) := by decide +kernel
theorem dX10_spelled_41 : decode cX10_spelled 41 = .ok (.bipush 96, 2) := by decide +kernel
theorem dX10_spelled_43 : decode cX10_spelled 43 = .ok (.isub, 1) := by decide +kernel
theorem dX10_spelled_44 : decode cX10_spelled 44 = .ok (.i2l, 1) := by decide +kernel
theorem dX10_spelled_45 : decode cX10_spelled 45 = .ok (.lor, 1) := by decide +kernel
theorem dX10_spelled_46 : decode cX10_spelled 46 = .ok (.lstore 7, 2) := by decide +kernel
theorem dX10_spelled_48 : decode cX10_spelled 48 = .ok (.iload 4, 2) := by decide +kernel
theorem dX10_spelled_50 : decode cX10_spelled 50 = .ok (.ifCond .eq 16, 3) := by decide +kernel
theorem dX10_spelled_53 : decode cX10_spelled 53 = .ok (.lload 7, 2) := by decide +kernel
theorem dX10_spelled_55 : decode cX10_spelled 55 = .ok (.iconst 5, 1) := by decide +kernel
theorem dX10_spelled_56 : decode cX10_spelled 56 = .ok (.lshl, 1) := by decide +kernel
theorem dX10_spelled_57 : decode cX10_spelled 57 = .ok (.iload 4, 2) := by decide +kernel
theorem dX10_spelled_59 : decode cX10_spelled 59 = .ok (.bipush 96, 2) := by decide +kernel
theorem dX10_spelled_61 : decode cX10_spelled 61 = .ok (.isub, 1) := by decide +kernel
theorem dX10_spelled_62 : decode cX10_spelled 62 = .ok (.i2l, 1) := by decide +kernel
theorem dX10_spelled_63 : decode cX10_spelled 63 = .ok (.lor, 1) := by decide +kernel
theorem dX10_spelled_64 : decode cX10_spelled 64 = .ok (.lstore 7, 2) := by decide +kernel
theorem dX10_spelled_66 : decode cX10_spelled 66 = .ok (.iload 5, 2) := by decide +kernel
theorem dX10_spelled_68 : decode cX10_spelled 68 = .ok (.ifCond .eq 16, 3) := by decide +kernel
theorem dX10_spelled_71 : decode cX10_spelled 71 = .ok (.lload 7, 2) := by decide +kernel
theorem dX10_spelled_73 : decode cX10_spelled 73 = .ok (.iconst 5, 1) := by decide +kernel
theorem dX10_spelled_74 : decode cX10_spelled 74 = .ok (.lshl, 1) := by decide +kernel
theorem dX10_spelled_75 : decode cX10_spelled 75 = .ok (.iload 5, 2) := by decide +kernel
theorem dX10_spelled_77 : decode cX10_spelled 77 = .ok (.bipush 96, 2) := by decide +kernel
theorem dX10_spelled_79 : decode cX10_spelled 79 = .ok (.isub, 1) := by decide +kernel
theorem dX10_spelled_80 : decode cX10_spelled 80 = .ok (.i2l, 1) := by decide +kernel
theorem dX10_spelled_81 : decode cX10_spelled 81 = .ok (.lor, 1) := by decide +kernel
theorem dX10_spelled_82 : decode cX10_spelled 82 = .ok (.lstore 7, 2) := by decide +kernel
theorem dX10_spelled_84 : decode cX10_spelled 84 = .ok (.iload 6, 2) := by decide +kernel
theorem dX10_spelled_86 : decode cX10_spelled 86 = .ok (.ifCond .eq 16, 3) := by decide +kernel
theorem dX10_spelled_89 : decode cX10_spelled 89 = .ok (.lload 7, 2) := by decide +kernel
theorem dX10_spelled_91 : decode cX10_spelled 91 = .ok (.iconst 5, 1) := by decide +kernel
theorem dX10_spelled_92 : decode cX10_spelled 92 = .ok (.lshl, 1) := by decide +kernel
theorem dX10_spelled_93 : decode cX10_spelled 93 = .ok (.iload 6, 2) := by decide +kernel
theorem dX10_spelled_95 : decode cX10_spelled 95 = .ok (.bipush 96, 2) := by decide +kernel
theorem dX10_spelled_97 : decode cX10_spelled 97 = .ok (.isub, 1) := by decide +kernel
theorem dX10_spelled_98 : decode cX10_spelled 98 = .ok (.i2l, 1) := by decide +kernel
theorem dX10_spelled_99 : decode cX10_spelled 99 = .ok (.lor, 1) := by decide +kernel
theorem dX10_spelled_100 : decode cX10_spelled 100 = .ok (.lstore 7, 2) := by decide +kernel
theorem dX10_spelled_102 : decode cX10_spelled 102 = .ok (.lload 7, 2) := by decide +kernel
theorem dX10_spelled_104 : decode cX10_spelled 104 = .ok (.lreturn, 1) := by decide +kernel
theorem dX10_letters_0 : decode cX10_letters 0 = .ok (.iload_n 0, 1) := by decide +kernel
theorem dX10_letters_1 : decode cX10_letters 1 = .ok (.tableswitch 387 0 18 #[91, 105, 122, 138, 153, 169, 186, 200, 216, 231, 248, 265, 281, 297, 310, 325, 342, 360, 374], 91) := by decide +kernel
theorem dX10_letters_92 : decode cX10_letters 92 = .ok (.bipush 111, 2) := by decide +kernel
theorem dX10_letters_94 : decode cX10_letters 94 = .ok (.bipush 100, 2) := by decide +kernel
theorem dX10_letters_96 : decode cX10_letters 96 = .ok (.bipush 100, 2) := by decide +kernel
theorem dX10_letters_98 : decode cX10_letters 98 = .ok (.iconst 0, 1) := by decide +kernel
theorem dX10_letters_99 : decode cX10_letters 99 = .ok (.iconst 0, 1) := by decide +kernel
theorem dX10_letters_100 : decode cX10_letters 100 = .ok (.iconst 0, 1) := by decide +kernel
theorem dX10_letters_101 : decode cX10_letters 101 = .ok (.iconst 0, 1) := by decide +kernel
theorem dX10_letters_102 : decode cX10_letters 102 = .ok (.invokestatic 150, 3) := by decide +kernel
theorem dX10_letters_105 : decode cX10_letters 105 = .ok (.lreturn, 1) := by decide +kernel
theorem dX10_letters_106 : decode cX10_letters 106 = .ok (.bipush 119, 2) := by decide +kernel
theorem dX10_letters_108 : decode cX10_letters 108 = .ok (.bipush 101, 2) := by decide +kernel
theorem dX10_letters_110 : decode cX10_letters 110 = .ok (.bipush 105, 2) := by decide +kernel
theorem dX10_letters_112 : decode cX10_letters 112 = .ok (.bipush 103, 2) := by decide +kernel
theorem dX10_letters_114 : decode cX10_letters 114 = .ok (.bipush 104, 2) := by decide +kernel
theorem dX10_letters_116 : decode cX10_letters 116 = .ok (.bipush 116, 2) := by decide +kernel
theorem dX10_letters_118 : decode cX10_letters 118 = .ok (.iconst 0, 1) := by decide +kernel
theorem dX10_letters_119 : decode cX10_letters 119 = .ok (.invokestatic 150, 3) := by decide +kernel
theorem dX10_letters_122 : decode cX10_letters 122 = .ok (.lreturn, 1) := by decide +kernel
theorem dX10_letters_123 : decode cX10_letters 123 = .ok (.bipush 99, 2) := by decide +kernel
theorem dX10_letters_125 : decode cX10_letters 125 = .ok (.bipush 111, 2) := by decide +kernel
theorem dX10_letters_127 : decode cX10_letters 127 = .ok (.bipush 117, 2) := by decide +kernel
theorem dX10_letters_129 : decode cX10_letters 129 = .ok (.bipush 110, 2) := by decide +kernel
theorem dX10_letters_131 : decode cX10_letters 131 = .ok (.bipush 116, 2) := by decide +kernel
theorem dX10_letters_133 : decode cX10_letters 133 = .ok (.iconst 0, 1) := by decide +kernel
theorem dX10_letters_134 : decode cX10_letters 134 = .ok (.iconst 0, 1) := by decide +kernel
theorem dX10_letters_135 : decode cX10_letters 135 = .ok (.invokestatic 150, 3) := by decide +kernel
theorem dX10_letters_138 : decode cX10_letters 138 = .ok (.lreturn, 1) := by decide +kernel
theorem dX10_letters_139 : decode cX10_letters 139 = .ok (.bipush 101, 2) := by decide +kernel
theorem dX10_letters_141 : decode cX10_letters 141 = .ok (.bipush 121, 2) := by decide +kernel
theorem dX10_letters_143 : decode cX10_letters 143 = .ok (.bipush 101, 2) := by decide +kernel
theorem dX10_letters_145 : decode cX10_letters 145 = .ok (.bipush 115, 2) := by decide +kernel
theorem dX10_letters_147 : decode cX10_letters 147 = .ok (.iconst 0, 1) := by decide +kernel
theorem dX10_letters_148 : decode cX10_letters 148 = .ok (.iconst 0, 1) := by decide +kernel
theorem dX10_letters_149 : decode cX10_letters 149 = .ok (.iconst 0, 1) := by decide +kernel
theorem dX10_letters_150 : decode cX10_letters 150 = .ok (.invokestatic 150, 3) := by decide +kernel
theorem dX10_letters_153 : decode cX10_letters 153 = .ok (.lreturn, 1) := by decide +kernel
theorem dX10_letters_154 : decode cX10_letters 154 = .ok (.bipush 111, 2) := by decide +kernel
theorem dX10_letters_156 : decode cX10_letters 156 = .ok (.bipush 119, 2) := by decide +kernel
theorem dX10_letters_158 : decode cX10_letters 158 = .ok (.bipush 110, 2) := by decide +kernel
theorem dX10_letters_160 : decode cX10_letters 160 = .ok (.bipush 101, 2) := by decide +kernel
theorem dX10_letters_162 : decode cX10_letters 162 = .ok (.bipush 114, 2) := by decide +kernel
theorem dX10_letters_164 : decode cX10_letters 164 = .ok (.iconst 0, 1) := by decide +kernel
theorem dX10_letters_165 : decode cX10_letters 165 = .ok (.iconst 0, 1) := by decide +kernel
theorem dX10_letters_166 : decode cX10_letters 166 = .ok (.invokestatic 150, 3) := by decide +kernel
theorem dX10_letters_169 : decode cX10_letters 169 = .ok (.lreturn, 1) := by decide +kernel
theorem dX10_letters_170 : decode cX10_letters 170 = .ok (.bipush 118, 2) := by decide +kernel
theorem dX10_letters_172 : decode cX10_letters 172 = .ok (.bipush 97, 2) := by decide +kernel
theorem dX10_letters_174 : decode cX10_letters 174 = .ok (.bipush 110, 2) := by decide +kernel
theorem dX10_letters_176 : decode cX10_letters 176 = .ok (.bipush 105, 2) := by decide +kernel
theorem dX10_letters_178 : decode cX10_letters 178 = .ok (.bipush 116, 2) := by decide +kernel
theorem dX10_letters_180 : decode cX10_letters 180 = .ok (.bipush 121, 2) := by decide +kernel
theorem dX10_letters_182 : decode cX10_letters 182 = .ok (.iconst 0, 1) := by decide +kernel
theorem dX10_letters_183 : decode cX10_letters 183 = .ok (.invokestatic 150, 3) := by decide +kernel
theorem dX10_letters_186 : decode cX10_letters 186 = .ok (.lreturn, 1) := by decide +kernel
theorem dX10_letters_187 : decode cX10_letters 187 = .ok (.bipush 100, 2) := by decide +kernel
theorem dX10_letters_189 : decode cX10_letters 189 = .ok (.bipush 97, 2) := by decide +kernel
theorem dX10_letters_191 : decode cX10_letters 191 = .ok (.bipush 121, 2) := by decide +kernel
theorem dX10_letters_193 : decode cX10_letters 193 = .ok (.iconst 0, 1) := by decide +kernel
theorem dX10_letters_194 : decode cX10_letters 194 = .ok (.iconst 0, 1) := by decide +kernel
theorem dX10_letters_195 : decode cX10_letters 195 = .ok (.iconst 0, 1) := by decide +kernel
theorem dX10_letters_196 : decode cX10_letters 196 = .ok (.iconst 0, 1) := by decide +kernel
theorem dX10_letters_197 : decode cX10_letters 197 = .ok (.invokestatic 150, 3) := by decide +kernel
theorem dX10_letters_200 : decode cX10_letters 200 = .ok (.lreturn, 1) := by decide +kernel
theorem dX10_letters_201 : decode cX10_letters 201 = .ok (.bipush 115, 2) := by decide +kernel
theorem dX10_letters_203 : decode cX10_letters 203 = .ok (.bipush 104, 2) := by decide +kernel
theorem dX10_letters_205 : decode cX10_letters 205 = .ok (.bipush 97, 2) := by decide +kernel
theorem dX10_letters_207 : decode cX10_letters 207 = .ok (.bipush 109, 2) := by decide +kernel
theorem dX10_letters_209 : decode cX10_letters 209 = .ok (.bipush 101, 2) := by decide +kernel
theorem dX10_letters_211 : decode cX10_letters 211 = .ok (.iconst 0, 1) := by decide +kernel
theorem dX10_letters_212 : decode cX10_letters 212 = .ok (.iconst 0, 1) := by decide +kernel
theorem dX10_letters_213 : decode cX10_letters 213 = .ok (.invokestatic 150, 3) := by decide +kernel
theorem dX10_letters_216 : decode cX10_letters 216 = .ok (.lreturn, 1) := by decide +kernel
theorem dX10_letters_217 : decode cX10_letters 217 = .ok (.bipush 109, 2) := by decide +kernel
theorem dX10_letters_219 : decode cX10_letters 219 = .ok (.bipush 97, 2) := by decide +kernel
theorem dX10_letters_221 : decode cX10_letters 221 = .ok (.bipush 110, 2) := by decide +kernel
theorem dX10_letters_223 : decode cX10_letters 223 = .ok (.bipush 121, 2) := by decide +kernel
theorem dX10_letters_225 : decode cX10_letters 225 = .ok (.iconst 0, 1) := by decide +kernel
theorem dX10_letters_226 : decode cX10_letters 226 = .ok (.iconst 0, 1) := by decide +kernel
theorem dX10_letters_227 : decode cX10_letters 227 = .ok (.iconst 0, 1) := by decide +kernel
theorem dX10_letters_228 : decode cX10_letters 228 = .ok (.invokestatic 150, 3) := by decide +kernel
theorem dX10_letters_231 : decode cX10_letters 231 = .ok (.lreturn, 1) := by decide +kernel
theorem dX10_letters_232 : decode cX10_letters 232 = .ok (.bipush 112, 2) := by decide +kernel
theorem dX10_letters_234 : decode cX10_letters 234 = .ok (.bipush 108, 2) := by decide +kernel
theorem dX10_letters_236 : decode cX10_letters 236 = .ok (.bipush 97, 2) := by decide +kernel
theorem dX10_letters_238 : decode cX10_letters 238 = .ok (.bipush 99, 2) := by decide +kernel
theorem dX10_letters_240 : decode cX10_letters 240 = .ok (.bipush 101, 2) := by decide +kernel
theorem dX10_letters_242 : decode cX10_letters 242 = .ok (.bipush 115, 2) := by decide +kernel
theorem dX10_letters_244 : decode cX10_letters 244 = .ok (.iconst 0, 1) := by decide +kernel
theorem dX10_letters_245 : decode cX10_letters 245 = .ok (.invokestatic 150, 3) := by decide +kernel
theorem dX10_letters_248 : decode cX10_letters 248 = .ok (.lreturn, 1) := by decide +kernel
theorem dX10_letters_249 : decode cX10_letters 249 = .ok (.bipush 112, 2) := by decide +kernel
theorem dX10_letters_251 : decode cX10_letters 251 = .ok (.bipush 101, 2) := by decide +kernel
theorem dX10_letters_253 : decode cX10_letters 253 = .ok (.bipush 114, 2) := by decide +kernel
theorem dX10_letters_255 : decode cX10_letters 255 = .ok (.bipush 115, 2) := by decide +kernel
theorem dX10_letters_257 : decode cX10_letters 257 = .ok (.bipush 111, 2) := by decide +kernel
theorem dX10_letters_259 : decode cX10_letters 259 = .ok (.bipush 110, 2) := by decide +kernel
theorem dX10_letters_261 : decode cX10_letters 261 = .ok (.iconst 0, 1) := by decide +kernel
theorem dX10_letters_262 : decode cX10_letters 262 = .ok (.invokestatic 150, 3) := by decide +kernel
theorem dX10_letters_265 : decode cX10_letters 265 = .ok (.lreturn, 1) := by decide +kernel
theorem dX10_letters_266 : decode cX10_letters 266 = .ok (.bipush 98, 2) := by decide +kernel
theorem dX10_letters_268 : decode cX10_letters 268 = .ok (.bipush 108, 2) := by decide +kernel
theorem dX10_letters_270 : decode cX10_letters 270 = .ok (.bipush 105, 2) := by decide +kernel
theorem dX10_letters_272 : decode cX10_letters 272 = .ok (.bipush 110, 2) := by decide +kernel
theorem dX10_letters_274 : decode cX10_letters 274 = .ok (.bipush 100, 2) := by decide +kernel
theorem dX10_letters_276 : decode cX10_letters 276 = .ok (.iconst 0, 1) := by decide +kernel
theorem dX10_letters_277 : decode cX10_letters 277 = .ok (.iconst 0, 1) := by decide +kernel
theorem dX10_letters_278 : decode cX10_letters 278 = .ok (.invokestatic 150, 3) := by decide +kernel
theorem dX10_letters_281 : decode cX10_letters 281 = .ok (.lreturn, 1) := by decide +kernel
theorem dX10_letters_282 : decode cX10_letters 282 = .ok (.bipush 116, 2) := by decide +kernel
theorem dX10_letters_284 : decode cX10_letters 284 = .ok (.bipush 104, 2) := by decide +kernel
theorem dX10_letters_286 : decode cX10_letters 286 = .ok (.bipush 105, 2) := by decide +kernel
theorem dX10_letters_288 : decode cX10_letters 288 = .ok (.bipush 110, 2) := by decide +kernel
theorem dX10_letters_290 : decode cX10_letters 290 = .ok (.bipush 103, 2) := by decide +kernel
theorem dX10_letters_292 : decode cX10_letters 292 = .ok (.iconst 0, 1) := by decide +kernel
theorem dX10_letters_293 : decode cX10_letters 293 = .ok (.iconst 0, 1) := by decide +kernel
theorem dX10_letters_294 : decode cX10_letters 294 = .ok (.invokestatic 150, 3) := by decide +kernel
theorem dX10_letters_297 : decode cX10_letters 297 = .ok (.lreturn, 1) := by decide +kernel
theorem dX10_letters_298 : decode cX10_letters 298 = .ok (.bipush 98, 2) := by decide +kernel
theorem dX10_letters_300 : decode cX10_letters 300 = .ok (.bipush 121, 2) := by decide +kernel
theorem dX10_letters_302 : decode cX10_letters 302 = .ok (.iconst 0, 1) := by decide +kernel
theorem dX10_letters_303 : decode cX10_letters 303 = .ok (.iconst 0, 1) := by decide +kernel
theorem dX10_letters_304 : decode cX10_letters 304 = .ok (.iconst 0, 1) := by decide +kernel
theorem dX10_letters_305 : decode cX10_letters 305 = .ok (.iconst 0, 1) := by decide +kernel
theorem dX10_letters_306 : decode cX10_letters 306 = .ok (.iconst 0, 1) := by decide +kernel
theorem dX10_letters_307 : decode cX10_letters 307 = .ok (.invokestatic 150, 3) := by decide +kernel
theorem dX10_letters_310 : decode cX10_letters 310 = .ok (.lreturn, 1) := by decide +kernel
theorem dX10_letters_311 : decode cX10_letters 311 = .ok (.bipush 116, 2) := by decide +kernel
theorem dX10_letters_313 : decode cX10_letters 313 = .ok (.bipush 101, 2) := by decide +kernel
theorem dX10_letters_315 : decode cX10_letters 315 = .ok (.bipush 114, 2) := by decide +kernel
theorem dX10_letters_317 : decode cX10_letters 317 = .ok (.bipush 109, 2) := by decide +kernel
theorem dX10_letters_319 : decode cX10_letters 319 = .ok (.iconst 0, 1) := by decide +kernel
theorem dX10_letters_320 : decode cX10_letters 320 = .ok (.iconst 0, 1) := by decide +kernel
theorem dX10_letters_321 : decode cX10_letters 321 = .ok (.iconst 0, 1) := by decide +kernel
theorem dX10_letters_322 : decode cX10_letters 322 = .ok (.invokestatic 150, 3) := by decide +kernel
theorem dX10_letters_325 : decode cX10_letters 325 = .ok (.lreturn, 1) := by decide +kernel
theorem dX10_letters_326 : decode cX10_letters 326 = .ok (.bipush 115, 2) := by decide +kernel
theorem dX10_letters_328 : decode cX10_letters 328 = .ok (.bipush 104, 2) := by decide +kernel
theorem dX10_letters_330 : decode cX10_letters 330 = .ok (.bipush 97, 2) := by decide +kernel
theorem dX10_letters_332 : decode cX10_letters 332 = .ok (.bipush 109, 2) := by decide +kernel
theorem dX10_letters_334 : decode cX10_letters 334 = .ok (.bipush 101, 2) := by decide +kernel
theorem dX10_letters_336 : decode cX10_letters 336 = .ok (.bipush 115, 2) := by decide +kernel
theorem dX10_letters_338 : decode cX10_letters 338 = .ok (.iconst 0, 1) := by decide +kernel
theorem dX10_letters_339 : decode cX10_letters 339 = .ok (.invokestatic 150, 3) := by decide +kernel
theorem dX10_letters_342 : decode cX10_letters 342 = .ok (.lreturn, 1) := by decide +kernel
theorem dX10_letters_343 : decode cX10_letters 343 = .ok (.bipush 114, 2) := by decide +kernel
theorem dX10_letters_345 : decode cX10_letters 345 = .ok (.bipush 101, 2) := by decide +kernel
theorem dX10_letters_347 : decode cX10_letters 347 = .ok (.bipush 116, 2) := by decide +kernel
theorem dX10_letters_349 : decode cX10_letters 349 = .ok (.bipush 117, 2) := by decide +kernel
theorem dX10_letters_351 : decode cX10_letters 351 = .ok (.bipush 114, 2) := by decide +kernel
theorem dX10_letters_353 : decode cX10_letters 353 = .ok (.bipush 110, 2) := by decide +kernel
theorem dX10_letters_355 : decode cX10_letters 355 = .ok (.bipush 115, 2) := by decide +kernel
theorem dX10_letters_357 : decode cX10_letters 357 = .ok (.invokestatic 150, 3) := by decide +kernel
theorem dX10_letters_360 : decode cX10_letters 360 = .ok (.lreturn, 1) := by decide +kernel
theorem dX10_letters_361 : decode cX10_letters 361 = .ok (.bipush 97, 2) := by decide +kernel
theorem dX10_letters_363 : decode cX10_letters 363 = .ok (.bipush 110, 2) := by decide +kernel
theorem dX10_letters_365 : decode cX10_letters 365 = .ok (.bipush 100, 2) := by decide +kernel
theorem dX10_letters_367 : decode cX10_letters 367 = .ok (.iconst 0, 1) := by decide +kernel
theorem dX10_letters_368 : decode cX10_letters 368 = .ok (.iconst 0, 1) := by decide +kernel
theorem dX10_letters_369 : decode cX10_letters 369 = .ok (.iconst 0, 1) := by decide +kernel
theorem dX10_letters_370 : decode cX10_letters 370 = .ok (.iconst 0, 1) := by decide +kernel
theorem dX10_letters_371 : decode cX10_letters 371 = .ok (.invokestatic 150, 3) := by decide +kernel
theorem dX10_letters_374 : decode cX10_letters 374 = .ok (.lreturn, 1) := by decide +kernel
theorem dX10_letters_375 : decode cX10_letters 375 = .ok (.bipush 111, 2) := by decide +kernel
theorem dX10_letters_377 : decode cX10_letters 377 = .ok (.bipush 114, 2) := by decide +kernel
theorem dX10_letters_379 : decode cX10_letters 379 = .ok (.iconst 0, 1) := by decide +kernel
theorem dX10_letters_380 : decode cX10_letters 380 = .ok (.iconst 0, 1) := by decide +kernel
theorem dX10_letters_381 : decode cX10_letters 381 = .ok (.iconst 0, 1) := by decide +kernel
theorem dX10_letters_382 : decode cX10_letters 382 = .ok (.iconst 0, 1) := by decide +kernel
theorem dX10_letters_383 : decode cX10_letters 383 = .ok (.iconst 0, 1) := by decide +kernel
theorem dX10_letters_384 : decode cX10_letters 384 = .ok (.invokestatic 150, 3) := by decide +kernel
theorem dX10_letters_387 : decode cX10_letters 387 = .ok (.lreturn, 1) := by decide +kernel
theorem dX10_letters_388 : decode cX10_letters 388 = .ok (.bipush 110, 2) := by decide +kernel
theorem dX10_letters_390 : decode cX10_letters 390 = .ok (.bipush 111, 2) := by decide +kernel
theorem dX10_letters_392 : decode cX10_letters 392 = .ok (.bipush 116, 2) := by decide +kernel
theorem dX10_letters_394 : decode cX10_letters 394 = .ok (.iconst 0, 1) := by decide +kernel
theorem dX10_letters_395 : decode cX10_letters 395 = .ok (.iconst 0, 1) := by decide +kernel
theorem dX10_letters_396 : decode cX10_letters 396 = .ok (.iconst 0, 1) := by decide +kernel
theorem dX10_letters_397 : decode cX10_letters 397 = .ok (.iconst 0, 1) := by decide +kernel
theorem dX10_letters_398 : decode cX10_letters 398 = .ok (.invokestatic 150, 3) := by decide +kernel
theorem dX10_letters_401 : decode cX10_letters 401 = .ok (.lreturn, 1) := by decide +kernel
theorem dX10_knownWord_0 : decode cX10_knownWord 0 = .ok (.aload_n 0, 1) := by decide +kernel
theorem dX10_knownWord_1 : decode cX10_knownWord 1 = .ok (.getfield 135, 3) := by decide +kernel
theorem dX10_knownWord_4 : decode cX10_knownWord 4 = .ok (.iconst 1, 1) := by decide +kernel
theorem dX10_knownWord_5 : decode cX10_knownWord 5 = .ok (.if_icmp .ne 12, 3) := by decide +kernel
theorem dX10_knownWord_8 : decode cX10_knownWord 8 = .ok (.aload_n 0, 1) := by decide +kernel
theorem dX10_knownWord_9 : decode cX10_knownWord 9 = .ok (.getfield 145, 3) := by decide +kernel
theorem dX10_knownWord_12 : decode cX10_knownWord 12 = .ok (.bipush 7, 2) := by decide +kernel
theorem dX10_knownWord_14 : decode cX10_knownWord 14 = .ok (.if_icmp .le 5, 3) := by decide +kernel
theorem dX10_knownWord_17 : decode cX10_knownWord 17 = .ok (.iconst (-1), 1) := by decide +kernel
theorem dX10_knownWord_18 : decode cX10_knownWord 18 = .ok (.ireturn, 1) := by decide +kernel
theorem dX10_knownWord_19 : decode cX10_knownWord 19 = .ok (.iconst 0, 1) := by decide +kernel
theorem dX10_knownWord_20 : decode cX10_knownWord 20 = .ok (.istore_n 1, 1) := by decide +kernel
theorem dX10_knownWord_21 : decode cX10_knownWord 21 = .ok (.iload_n 1, 1) := by decide +kernel
theorem dX10_knownWord_22 : decode cX10_knownWord 22 = .ok (.bipush 20, 2) := by decide +kernel
theorem dX10_knownWord_24 : decode cX10_knownWord 24 = .ok (.if_icmp .ge 23, 3) := by decide +kernel
theorem dX10_knownWord_27 : decode cX10_knownWord 27 = .ok (.iload_n 1, 1) := by decide +kernel
theorem dX10_knownWord_28 : decode cX10_knownWord 28 = .ok (.invokestatic 154, 3) := by decide +kernel
theorem dX10_knownWord_31 : decode cX10_knownWord 31 = .ok (.aload_n 0, 1) := by decide +kernel
theorem dX10_knownWord_32 : decode cX10_knownWord 32 = .ok (.getfield 125, 3) := by decide +kernel
theorem dX10_knownWord_35 : decode cX10_knownWord 35 = .ok (.lcmp, 1) := by decide +kernel
theorem dX10_knownWord_36 : decode cX10_knownWord 36 = .ok (.ifCond .ne 5, 3) := by decide +kernel
theorem dX10_knownWord_39 : decode cX10_knownWord 39 = .ok (.iload_n 1, 1) := by decide +kernel
theorem dX10_knownWord_40 : decode cX10_knownWord 40 = .ok (.ireturn, 1) := by decide +kernel
theorem dX10_knownWord_41 : decode cX10_knownWord 41 = .ok (.iinc 1 1, 3) := by decide +kernel
theorem dX10_knownWord_44 : decode cX10_knownWord 44 = .ok (.goto (-23), 3) := by decide +kernel
theorem dX10_knownWord_47 : decode cX10_knownWord 47 = .ok (.iconst (-1), 1) := by decide +kernel
theorem dX10_knownWord_48 : decode cX10_knownWord 48 = .ok (.ireturn, 1) := by decide +kernel
theorem dX10_wrong_0 : decode cX10_wrong 0 = .ok (.aload_n 0, 1) := by decide +kernel
theorem dX10_wrong_1 : decode cX10_wrong 1 = .ok (.getfield 158, 3) := by decide +kernel
theorem dX10_wrong_4 : decode cX10_wrong 4 = .ok (.ifCond .eq 4, 3) := by decide +kernel
theorem dX10_wrong_7 : decode cX10_wrong 7 = .ok (.return_, 1) := by decide +kernel
theorem dX10_wrong_8 : decode cX10_wrong 8 = .ok (.aload_n 0, 1) := by decide +kernel
theorem dX10_wrong_9 : decode cX10_wrong 9 = .ok (.iload_n 1, 1) := by decide +kernel
theorem dX10_wrong_10 : decode cX10_wrong 10 = .ok (.putfield 158, 3) := by decide +kernel
theorem dX10_wrong_13 : decode cX10_wrong 13 = .ok (.aload_n 0, 1) := by decide +kernel
theorem dX10_wrong_14 : decode cX10_wrong 14 = .ok (.aload_n 0, 1) := by decide +kernel
theorem dX10_wrong_15 : decode cX10_wrong 15 = .ok (.getfield 122, 3) := by decide +kernel
theorem dX10_wrong_18 : decode cX10_wrong 18 = .ok (.putfield 39, 3) := by decide +kernel
theorem dX10_wrong_21 : decode cX10_wrong 21 = .ok (.return_, 1) := by decide +kernel
theorem dX10_isGood_0 : decode cX10_isGood 0 = .ok (.aload_n 0, 1) := by decide +kernel
theorem dX10_isGood_1 : decode cX10_isGood 1 = .ok (.getfield 158, 3) := by decide +kernel
theorem dX10_isGood_4 : decode cX10_isGood 4 = .ok (.ifCond .ne 7, 3) := by decide +kernel
theorem dX10_isGood_7 : decode cX10_isGood 7 = .ok (.iconst 1, 1) := by decide +kernel
theorem dX10_isGood_8 : decode cX10_isGood 8 = .ok (.goto 4, 3) := by decide +kernel
theorem dX10_isGood_11 : decode cX10_isGood 11 = .ok (.iconst 0, 1) := by decide +kernel
theorem dX10_isGood_12 : decode cX10_isGood 12 = .ok (.ireturn, 1) := by decide +kernel
theorem dX10_isSign_0 : decode cX10_isSign 0 = .ok (.aload_n 0, 1) := by decide +kernel
theorem dX10_isSign_1 : decode cX10_isSign 1 = .ok (.getfield 135, 3) := by decide +kernel
theorem dX10_isSign_4 : decode cX10_isSign 4 = .ok (.iconst 3, 1) := by decide +kernel
theorem dX10_isSign_5 : decode cX10_isSign 5 = .ok (.if_icmp .ne 15, 3) := by decide +kernel
theorem dX10_isSign_8 : decode cX10_isSign 8 = .ok (.aload_n 0, 1) := by decide +kernel
theorem dX10_isSign_9 : decode cX10_isSign 9 = .ok (.getfield 132, 3) := by decide +kernel
theorem dX10_isSign_12 : decode cX10_isSign 12 = .ok (.iload_n 1, 1) := by decide +kernel
theorem dX10_isSign_13 : decode cX10_isSign 13 = .ok (.if_icmp .ne 7, 3) := by decide +kernel
theorem dX10_isSign_16 : decode cX10_isSign 16 = .ok (.iconst 1, 1) := by decide +kernel
theorem dX10_isSign_17 : decode cX10_isSign 17 = .ok (.goto 4, 3) := by decide +kernel
theorem dX10_isSign_20 : decode cX10_isSign 20 = .ok (.iconst 0, 1) := by decide +kernel
theorem dX10_isSign_21 : decode cX10_isSign 21 = .ok (.ireturn, 1) := by decide +kernel
theorem dX10_need_0 : decode cX10_need 0 = .ok (.aload_n 0, 1) := by decide +kernel
theorem dX10_need_1 : decode cX10_need 1 = .ok (.invokevirtual 161, 3) := by decide +kernel
theorem dX10_need_4 : decode cX10_need 4 = .ok (.ifCond .ne 4, 3) := by decide +kernel
theorem dX10_need_7 : decode cX10_need 7 = .ok (.return_, 1) := by decide +kernel
theorem dX10_need_8 : decode cX10_need 8 = .ok (.iload_n 1, 1) := by decide +kernel
theorem dX10_need_9 : decode cX10_need 9 = .ok (.ifCond .eq 10, 3) := by decide +kernel
theorem dX10_need_12 : decode cX10_need 12 = .ok (.aload_n 0, 1) := by decide +kernel
theorem dX10_need_13 : decode cX10_need 13 = .ok (.invokevirtual 165, 3) := by decide +kernel
theorem dX10_need_16 : decode cX10_need 16 = .ok (.goto 8, 3) := by decide +kernel
theorem dX10_need_19 : decode cX10_need 19 = .ok (.aload_n 0, 1) := by decide +kernel
theorem dX10_need_20 : decode cX10_need 20 = .ok (.iconst 1, 1) := by decide +kernel
theorem dX10_need_21 : decode cX10_need 21 = .ok (.invokevirtual 168, 3) := by decide +kernel
theorem dX10_need_24 : decode cX10_need 24 = .ok (.return_, 1) := by decide +kernel
theorem dX10_number_0 : decode cX10_number 0 = .ok (.aload_n 0, 1) := by decide +kernel
theorem dX10_number_1 : decode cX10_number 1 = .ok (.invokevirtual 161, 3) := by decide +kernel
theorem dX10_number_4 : decode cX10_number 4 = .ok (.ifCond .ne 5, 3) := by decide +kernel
theorem dX10_number_7 : decode cX10_number 7 = .ok (.iconst 0, 1) := by decide +kernel
theorem dX10_number_8 : decode cX10_number 8 = .ok (.ireturn, 1) := by decide +kernel
theorem dX10_number_9 : decode cX10_number 9 = .ok (.aload_n 0, 1) := by decide +kernel
theorem dX10_number_10 : decode cX10_number 10 = .ok (.getfield 135, 3) := by decide +kernel
theorem dX10_number_13 : decode cX10_number 13 = .ok (.iconst 2, 1) := by decide +kernel
theorem dX10_number_14 : decode cX10_number 14 = .ok (.if_icmp .eq 11, 3) := by decide +kernel
theorem dX10_number_17 : decode cX10_number 17 = .ok (.aload_n 0, 1) := by decide +kernel
theorem dX10_number_18 : decode cX10_number 18 = .ok (.iconst 1, 1) := by decide +kernel
theorem dX10_number_19 : decode cX10_number 19 = .ok (.invokevirtual 168, 3) := by decide +kernel
theorem dX10_number_22 : decode cX10_number 22 = .ok (.goto 32, 3) := by decide +kernel
theorem dX10_number_25 : decode cX10_number 25 = .ok (.aload_n 0, 1) := by decide +kernel
theorem dX10_number_26 : decode cX10_number 26 = .ok (.getfield 145, 3) := by decide +kernel
theorem dX10_number_29 : decode cX10_number 29 = .ok (.iconst 4, 1) := by decide +kernel
theorem dX10_number_30 : decode cX10_number 30 = .ok (.if_icmp .gt 19, 3) := by decide +kernel
theorem dX10_number_33 : decode cX10_number 33 = .ok (.aload_n 0, 1) := by decide +kernel
theorem dX10_number_34 : decode cX10_number 34 = .ok (.getfield 129, 3) := by decide +kernel
theorem dX10_number_37 : decode cX10_number 37 = .ok (.iload_n 1, 1) := by decide +kernel
theorem dX10_number_38 : decode cX10_number 38 = .ok (.if_icmp .lt 11, 3) := by decide +kernel
theorem dX10_number_41 : decode cX10_number 41 = .ok (.aload_n 0, 1) := by decide +kernel
theorem dX10_number_42 : decode cX10_number 42 = .ok (.getfield 129, 3) := by decide +kernel
theorem dX10_number_45 : decode cX10_number 45 = .ok (.iload_n 2, 1) := by decide +kernel
theorem dX10_number_46 : decode cX10_number 46 = .ok (.if_icmp .le 8, 3) := by decide +kernel
theorem dX10_number_49 : decode cX10_number 49 = .ok (.aload_n 0, 1) := by decide +kernel
theorem dX10_number_50 : decode cX10_number 50 = .ok (.iconst 2, 1) := by decide +kernel
theorem dX10_number_51 : decode cX10_number 51 = .ok (.invokevirtual 168, 3) := by decide +kernel
theorem dX10_number_54 : decode cX10_number 54 = .ok (.aload_n 0, 1) := by decide +kernel
theorem dX10_number_55 : decode cX10_number 55 = .ok (.getfield 129, 3) := by decide +kernel
theorem dX10_number_58 : decode cX10_number 58 = .ok (.istore_n 3, 1) := by decide +kernel
theorem dX10_number_59 : decode cX10_number 59 = .ok (.aload_n 0, 1) := by decide +kernel
theorem dX10_number_60 : decode cX10_number 60 = .ok (.invokevirtual 161, 3) := by decide +kernel
theorem dX10_number_63 : decode cX10_number 63 = .ok (.ifCond .eq 7, 3) := by decide +kernel
theorem dX10_number_66 : decode cX10_number 66 = .ok (.aload_n 0, 1) := by decide +kernel
theorem dX10_number_67 : decode cX10_number 67 = .ok (.invokevirtual 165, 3) := by decide +kernel
theorem dX10_number_70 : decode cX10_number 70 = .ok (.iload_n 3, 1) := by decide +kernel
theorem dX10_number_71 : decode cX10_number 71 = .ok (.ireturn, 1) := by decide +kernel
theorem dX10_isOneOf_0 : decode cX10_isOneOf 0 = .ok (.aload_n 0, 1) := by decide +kernel
theorem dX10_isOneOf_1 : decode cX10_isOneOf 1 = .ok (.invokevirtual 161, 3) := by decide +kernel
theorem dX10_isOneOf_4 : decode cX10_isOneOf 4 = .ok (.ifCond .ne 5, 3) := by decide +kernel
theorem dX10_isOneOf_7 : decode cX10_isOneOf 7 = .ok (.iconst 0, 1) := by decide +kernel
theorem dX10_isOneOf_8 : decode cX10_isOneOf 8 = .ok (.ireturn, 1) := by decide +kernel
theorem dX10_isOneOf_9 : decode cX10_isOneOf 9 = .ok (.aload_n 0, 1) := by decide +kernel
theorem dX10_isOneOf_10 : decode cX10_isOneOf 10 = .ok (.getfield 135, 3) := by decide +kernel
theorem dX10_isOneOf_13 : decode cX10_isOneOf 13 = .ok (.iconst 2, 1) := by decide +kernel
theorem dX10_isOneOf_14 : decode cX10_isOneOf 14 = .ok (.if_icmp .eq 11, 3) := by decide +kernel
theorem dX10_isOneOf_17 : decode cX10_isOneOf 17 = .ok (.aload_n 0, 1) := by decide +kernel
theorem dX10_isOneOf_18 : decode cX10_isOneOf 18 = .ok (.iconst 1, 1) := by decide +kernel
theorem dX10_isOneOf_19 : decode cX10_isOneOf 19 = .ok (.invokevirtual 168, 3) := by decide +kernel
theorem dX10_isOneOf_22 : decode cX10_isOneOf 22 = .ok (.goto 32, 3) := by decide +kernel
theorem dX10_isOneOf_25 : decode cX10_isOneOf 25 = .ok (.aload_n 0, 1) := by decide +kernel
theorem dX10_isOneOf_26 : decode cX10_isOneOf 26 = .ok (.getfield 145, 3) := by decide +kernel
theorem dX10_isOneOf_29 : decode cX10_isOneOf 29 = .ok (.iconst 4, 1) := by decide +kernel
theorem dX10_isOneOf_30 : decode cX10_isOneOf 30 = .ok (.if_icmp .le 11, 3) := by decide +kernel
theorem dX10_isOneOf_33 : decode cX10_isOneOf 33 = .ok (.aload_n 0, 1) := by decide +kernel
theorem dX10_isOneOf_34 : decode cX10_isOneOf 34 = .ok (.iconst 2, 1) := by decide +kernel
theorem dX10_isOneOf_35 : decode cX10_isOneOf 35 = .ok (.invokevirtual 168, 3) := by decide +kernel
theorem dX10_isOneOf_38 : decode cX10_isOneOf 38 = .ok (.goto 16, 3) := by decide +kernel
theorem dX10_isOneOf_41 : decode cX10_isOneOf 41 = .ok (.aload_n 0, 1) := by decide +kernel
theorem dX10_isOneOf_42 : decode cX10_isOneOf 42 = .ok (.getfield 129, 3) := by decide +kernel
theorem dX10_isOneOf_45 : decode cX10_isOneOf 45 = .ok (.iload_n 1, 1) := by decide +kernel
theorem dX10_isOneOf_46 : decode cX10_isOneOf 46 = .ok (.if_icmp .lt 8, 3) := by decide +kernel
theorem dX10_isOneOf_49 : decode cX10_isOneOf 49 = .ok (.aload_n 0, 1) := by decide +kernel
theorem dX10_isOneOf_50 : decode cX10_isOneOf 50 = .ok (.iconst 3, 1) := by decide +kernel
theorem dX10_isOneOf_51 : decode cX10_isOneOf 51 = .ok (.invokevirtual 168, 3) := by decide +kernel
theorem dX10_isOneOf_54 : decode cX10_isOneOf 54 = .ok (.aload_n 0, 1) := by decide +kernel
theorem dX10_isOneOf_55 : decode cX10_isOneOf 55 = .ok (.invokevirtual 161, 3) := by decide +kernel
theorem dX10_isOneOf_58 : decode cX10_isOneOf 58 = .ok (.ireturn, 1) := by decide +kernel
theorem dX10_puts_0 : decode cX10_puts 0 = .ok (.aload_n 0, 1) := by decide +kernel
theorem dX10_puts_1 : decode cX10_puts 1 = .ok (.getfield 54, 3) := by decide +kernel
theorem dX10_puts_4 : decode cX10_puts 4 = .ok (.aload_n 0, 1) := by decide +kernel
theorem dX10_puts_5 : decode cX10_puts 5 = .ok (.getfield 171, 3) := by decide +kernel
theorem dX10_puts_8 : decode cX10_puts 8 = .ok (.iload_n 1, 1) := by decide +kernel
theorem dX10_puts_9 : decode cX10_puts 9 = .ok (.iastore, 1) := by decide +kernel
theorem dX10_puts_10 : decode cX10_puts 10 = .ok (.aload_n 0, 1) := by decide +kernel
theorem dX10_puts_11 : decode cX10_puts 11 = .ok (.dup, 1) := by decide +kernel
theorem dX10_puts_12 : decode cX10_puts 12 = .ok (.getfield 171, 3) := by decide +kernel
theorem dX10_puts_15 : decode cX10_puts 15 = .ok (.iconst 1, 1) := by decide +kernel
theorem dX10_puts_16 : decode cX10_puts 16 = .ok (.iadd, 1) := by decide +kernel
theorem dX10_puts_17 : decode cX10_puts 17 = .ok (.putfield 171, 3) := by decide +kernel
theorem dX10_puts_20 : decode cX10_puts 20 = .ok (.return_, 1) := by decide +kernel
theorem dX10_isOpen_0 : decode cX10_isOpen 0 = .ok (.iload_n 0, 1) := by decide +kernel
theorem dX10_isOpen_1 : decode cX10_isOpen 1 = .ok (.bipush 14, 2) := by decide +kernel
theorem dX10_isOpen_3 : decode cX10_isOpen 3 = .ok (.if_icmp .lt 7, 3) := by decide +kernel
theorem dX10_isOpen_6 : decode cX10_isOpen 6 = .ok (.iconst 1, 1) := by decide +kernel
theorem dX10_isOpen_7 : decode cX10_isOpen 7 = .ok (.goto 4, 3) := by decide +kernel
theorem dX10_isOpen_10 : decode cX10_isOpen 10 = .ok (.iconst 0, 1) := by decide +kernel
theorem dX10_isOpen_11 : decode cX10_isOpen 11 = .ok (.ireturn, 1) := by decide +kernel
theorem dX10_strength_0 : decode cX10_strength 0 = .ok (.iload_n 0, 1) := by decide +kernel
theorem dX10_strength_1 : decode cX10_strength 1 = .ok (.iconst 5, 1) := by decide +kernel
theorem dX10_strength_2 : decode cX10_strength 2 = .ok (.if_icmp .ne 7, 3) := by decide +kernel
theorem dX10_strength_5 : decode cX10_strength 5 = .ok (.iconst 1, 1) := by decide +kernel
theorem dX10_strength_6 : decode cX10_strength 6 = .ok (.goto 55, 3) := by decide +kernel
theorem dX10_strength_9 : decode cX10_strength 9 = .ok (.iload_n 0, 1) := by decide +kernel
theorem dX10_strength_10 : decode cX10_strength 10 = .ok (.iconst 4, 1) := by decide +kernel
theorem dX10_strength_11 : decode cX10_strength 11 = .ok (.if_icmp .ne 7, 3) := by decide +kernel
theorem dX10_strength_14 : decode cX10_strength 14 = .ok (.iconst 2, 1) := by decide +kernel
theorem dX10_strength_15 : decode cX10_strength 15 = .ok (.goto 46, 3) := by decide +kernel
theorem dX10_strength_18 : decode cX10_strength 18 = .ok (.iload_n 0, 1) := by decide +kernel
theorem dX10_strength_19 : decode cX10_strength 19 = .ok (.iconst 3, 1) := by decide +kernel
theorem dX10_strength_20 : decode cX10_strength 20 = .ok (.if_icmp .ne 7, 3) := by decide +kernel
theorem dX10_strength_23 : decode cX10_strength 23 = .ok (.iconst 3, 1) := by decide +kernel
theorem dX10_strength_24 : decode cX10_strength 24 = .ok (.goto 37, 3) := by decide +kernel
theorem dX10_strength_27 : decode cX10_strength 27 = .ok (.iload_n 0, 1) := by decide +kernel
theorem dX10_strength_28 : decode cX10_strength 28 = .ok (.bipush 6, 2) := by decide +kernel
theorem dX10_strength_30 : decode cX10_strength 30 = .ok (.if_icmp .eq 9, 3) := by decide +kernel
theorem dX10_strength_33 : decode cX10_strength 33 = .ok (.iload_n 0, 1) := by decide +kernel
theorem dX10_strength_34 : decode cX10_strength 34 = .ok (.bipush 7, 2) := by decide +kernel
theorem dX10_strength_36 : decode cX10_strength 36 = .ok (.if_icmp .ne 7, 3) := by decide +kernel
theorem dX10_strength_39 : decode cX10_strength 39 = .ok (.iconst 4, 1) := by decide +kernel
theorem dX10_strength_40 : decode cX10_strength 40 = .ok (.goto 21, 3) := by decide +kernel
theorem dX10_strength_43 : decode cX10_strength 43 = .ok (.iload_n 0, 1) := by decide +kernel
theorem dX10_strength_44 : decode cX10_strength 44 = .ok (.bipush 8, 2) := by decide +kernel
theorem dX10_strength_46 : decode cX10_strength 46 = .ok (.if_icmp .eq 9, 3) := by decide +kernel
theorem dX10_strength_49 : decode cX10_strength 49 = .ok (.iload_n 0, 1) := by decide +kernel
theorem dX10_strength_50 : decode cX10_strength 50 = .ok (.bipush 9, 2) := by decide +kernel
theorem dX10_strength_52 : decode cX10_strength 52 = .ok (.if_icmp .ne 7, 3) := by decide +kernel
theorem dX10_strength_55 : decode cX10_strength 55 = .ok (.iconst 5, 1) := by decide +kernel
theorem dX10_strength_56 : decode cX10_strength 56 = .ok (.goto 5, 3) := by decide +kernel
theorem dX10_strength_59 : decode cX10_strength 59 = .ok (.bipush 6, 2) := by decide +kernel
theorem dX10_strength_61 : decode cX10_strength 61 = .ok (.ireturn, 1) := by decide +kernel
theorem dX10_drops_0 : decode cX10_drops 0 = .ok (.aload_n 0, 1) := by decide +kernel
theorem dX10_drops_1 : decode cX10_drops 1 = .ok (.getfield 174, 3) := by decide +kernel
theorem dX10_drops_4 : decode cX10_drops 4 = .ok (.ifCond .le 64, 3) := by decide +kernel
theorem dX10_drops_7 : decode cX10_drops 7 = .ok (.aload_n 0, 1) := by decide +kernel
theorem dX10_drops_8 : decode cX10_drops 8 = .ok (.getfield 57, 3) := by decide +kernel
theorem dX10_drops_11 : decode cX10_drops 11 = .ok (.aload_n 0, 1) := by decide +kernel
theorem dX10_drops_12 : decode cX10_drops 12 = .ok (.getfield 174, 3) := by decide +kernel
theorem dX10_drops_15 : decode cX10_drops 15 = .ok (.iconst 1, 1) := by decide +kernel
theorem dX10_drops_16 : decode cX10_drops 16 = .ok (.isub, 1) := by decide +kernel
theorem dX10_drops_17 : decode cX10_drops 17 = .ok (.iaload, 1) := by decide +kernel
theorem dX10_drops_18 : decode cX10_drops 18 = .ok (.invokestatic 177, 3) := by decide +kernel
theorem dX10_drops_21 : decode cX10_drops 21 = .ok (.ifCond .ne 47, 3) := by decide +kernel
theorem dX10_drops_24 : decode cX10_drops 24 = .ok (.aload_n 0, 1) := by decide +kernel
theorem dX10_drops_25 : decode cX10_drops 25 = .ok (.getfield 57, 3) := by decide +kernel
theorem dX10_drops_28 : decode cX10_drops 28 = .ok (.aload_n 0, 1) := by decide +kernel
theorem dX10_drops_29 : decode cX10_drops 29 = .ok (.getfield 174, 3) := by decide +kernel
theorem dX10_drops_32 : decode cX10_drops 32 = .ok (.iconst 1, 1) := by decide +kernel
theorem dX10_drops_33 : decode cX10_drops 33 = .ok (.isub, 1) := by decide +kernel
theorem dX10_drops_34 : decode cX10_drops 34 = .ok (.iaload, 1) := by decide +kernel
theorem dX10_drops_35 : decode cX10_drops 35 = .ok (.invokestatic 180, 3) := by decide +kernel
theorem dX10_drops_38 : decode cX10_drops 38 = .ok (.iload_n 1, 1) := by decide +kernel
theorem dX10_drops_39 : decode cX10_drops 39 = .ok (.if_icmp .lt 29, 3) := by decide +kernel
theorem dX10_drops_42 : decode cX10_drops 42 = .ok (.aload_n 0, 1) := by decide +kernel
theorem dX10_drops_43 : decode cX10_drops 43 = .ok (.dup, 1) := by decide +kernel
theorem dX10_drops_44 : decode cX10_drops 44 = .ok (.getfield 174, 3) := by decide +kernel
theorem dX10_drops_47 : decode cX10_drops 47 = .ok (.iconst 1, 1) := by decide +kernel
theorem dX10_drops_48 : decode cX10_drops 48 = .ok (.isub, 1) := by decide +kernel
theorem dX10_drops_49 : decode cX10_drops 49 = .ok (.putfield 174, 3) := by decide +kernel
theorem dX10_drops_52 : decode cX10_drops 52 = .ok (.aload_n 0, 1) := by decide +kernel
theorem dX10_drops_53 : decode cX10_drops 53 = .ok (.aload_n 0, 1) := by decide +kernel
theorem dX10_drops_54 : decode cX10_drops 54 = .ok (.getfield 57, 3) := by decide +kernel
theorem dX10_drops_57 : decode cX10_drops 57 = .ok (.aload_n 0, 1) := by decide +kernel
theorem dX10_drops_58 : decode cX10_drops 58 = .ok (.getfield 174, 3) := by decide +kernel
theorem dX10_drops_61 : decode cX10_drops 61 = .ok (.iaload, 1) := by decide +kernel
theorem dX10_drops_62 : decode cX10_drops 62 = .ok (.invokevirtual 183, 3) := by decide +kernel
theorem dX10_drops_65 : decode cX10_drops 65 = .ok (.goto (-65), 3) := by decide +kernel
theorem dX10_drops_68 : decode cX10_drops 68 = .ok (.return_, 1) := by decide +kernel
theorem dX10_waitsFor_0 : decode cX10_waitsFor 0 = .ok (.aload_n 0, 1) := by decide +kernel
theorem dX10_waitsFor_1 : decode cX10_waitsFor 1 = .ok (.getfield 57, 3) := by decide +kernel
theorem dX10_waitsFor_4 : decode cX10_waitsFor 4 = .ok (.aload_n 0, 1) := by decide +kernel
theorem dX10_waitsFor_5 : decode cX10_waitsFor 5 = .ok (.getfield 174, 3) := by decide +kernel
theorem dX10_waitsFor_8 : decode cX10_waitsFor 8 = .ok (.iload_n 1, 1) := by decide +kernel
theorem dX10_waitsFor_9 : decode cX10_waitsFor 9 = .ok (.iastore, 1) := by decide +kernel
theorem dX10_waitsFor_10 : decode cX10_waitsFor 10 = .ok (.aload_n 0, 1) := by decide +kernel
theorem dX10_waitsFor_11 : decode cX10_waitsFor 11 = .ok (.dup, 1) := by decide +kernel
theorem dX10_waitsFor_12 : decode cX10_waitsFor 12 = .ok (.getfield 174, 3) := by decide +kernel
theorem dX10_waitsFor_15 : decode cX10_waitsFor 15 = .ok (.iconst 1, 1) := by decide +kernel
theorem dX10_waitsFor_16 : decode cX10_waitsFor 16 = .ok (.iadd, 1) := by decide +kernel
theorem dX10_waitsFor_17 : decode cX10_waitsFor 17 = .ok (.putfield 174, 3) := by decide +kernel
theorem dX10_waitsFor_20 : decode cX10_waitsFor 20 = .ok (.return_, 1) := by decide +kernel
theorem dX10_part_0 : decode cX10_part 0 = .ok (.aload_n 0, 1) := by decide +kernel
theorem dX10_part_1 : decode cX10_part 1 = .ok (.invokevirtual 161, 3) := by decide +kernel
theorem dX10_part_4 : decode cX10_part 4 = .ok (.ifCond .ne 4, 3) := by decide +kernel
theorem dX10_part_7 : decode cX10_part 7 = .ok (.return_, 1) := by decide +kernel
theorem dX10_part_8 : decode cX10_part 8 = .ok (.aload_n 0, 1) := by decide +kernel
theorem dX10_part_9 : decode cX10_part 9 = .ok (.getfield 135, 3) := by decide +kernel
theorem dX10_part_12 : decode cX10_part 12 = .ok (.iconst 2, 1) := by decide +kernel
theorem dX10_part_13 : decode cX10_part 13 = .ok (.if_icmp .ne 32, 3) := by decide +kernel
theorem dX10_part_16 : decode cX10_part 16 = .ok (.aload_n 0, 1) := by decide +kernel
theorem dX10_part_17 : decode cX10_part 17 = .ok (.getfield 145, 3) := by decide +kernel
theorem dX10_part_20 : decode cX10_part 20 = .ok (.iconst 4, 1) := by decide +kernel
theorem dX10_part_21 : decode cX10_part 21 = .ok (.if_icmp .le 8, 3) := by decide +kernel
theorem dX10_part_24 : decode cX10_part 24 = .ok (.aload_n 0, 1) := by decide +kernel
theorem dX10_part_25 : decode cX10_part 25 = .ok (.iconst 2, 1) := by decide +kernel
theorem dX10_part_26 : decode cX10_part 26 = .ok (.invokevirtual 168, 3) := by decide +kernel
theorem dX10_part_29 : decode cX10_part 29 = .ok (.aload_n 0, 1) := by decide +kernel
theorem dX10_part_30 : decode cX10_part 30 = .ok (.iconst 1, 1) := by decide +kernel
theorem dX10_part_31 : decode cX10_part 31 = .ok (.invokevirtual 183, 3) := by decide +kernel
theorem dX10_part_34 : decode cX10_part 34 = .ok (.aload_n 0, 1) := by decide +kernel
theorem dX10_part_35 : decode cX10_part 35 = .ok (.aload_n 0, 1) := by decide +kernel
theorem dX10_part_36 : decode cX10_part 36 = .ok (.getfield 129, 3) := by decide +kernel
theorem dX10_part_39 : decode cX10_part 39 = .ok (.invokevirtual 183, 3) := by decide +kernel
theorem dX10_part_42 : decode cX10_part 42 = .ok (.goto 55, 3) := by decide +kernel
theorem dX10_part_45 : decode cX10_part 45 = .ok (.aload_n 0, 1) := by decide +kernel
theorem dX10_part_46 : decode cX10_part 46 = .ok (.getfield 135, 3) := by decide +kernel
theorem dX10_part_49 : decode cX10_part 49 = .ok (.iconst 1, 1) := by decide +kernel
theorem dX10_part_50 : decode cX10_part 50 = .ok (.if_icmp .ne 42, 3) := by decide +kernel
theorem dX10_part_53 : decode cX10_part 53 = .ok (.aload_n 0, 1) := by decide +kernel
theorem dX10_part_54 : decode cX10_part 54 = .ok (.invokevirtual 186, 3) := by decide +kernel
theorem dX10_part_57 : decode cX10_part 57 = .ok (.istore_n 1, 1) := by decide +kernel
theorem dX10_part_58 : decode cX10_part 58 = .ok (.iload_n 1, 1) := by decide +kernel
theorem dX10_part_59 : decode cX10_part 59 = .ok (.aload_n 0, 1) := by decide +kernel
theorem dX10_part_60 : decode cX10_part 60 = .ok (.getfield 190, 3) := by decide +kernel
theorem dX10_part_63 : decode cX10_part 63 = .ok (.if_icmp .lt 11, 3) := by decide +kernel
theorem dX10_part_66 : decode cX10_part 66 = .ok (.iload_n 1, 1) := by decide +kernel
theorem dX10_part_67 : decode cX10_part 67 = .ok (.aload_n 0, 1) := by decide +kernel
theorem dX10_part_68 : decode cX10_part 68 = .ok (.getfield 193, 3) := by decide +kernel
theorem dX10_part_71 : decode cX10_part 71 = .ok (.if_icmp .le 8, 3) := by decide +kernel
theorem dX10_part_74 : decode cX10_part 74 = .ok (.aload_n 0, 1) := by decide +kernel
theorem dX10_part_75 : decode cX10_part 75 = .ok (.iconst 3, 1) := by decide +kernel
theorem dX10_part_76 : decode cX10_part 76 = .ok (.invokevirtual 168, 3) := by decide +kernel
theorem dX10_part_79 : decode cX10_part 79 = .ok (.aload_n 0, 1) := by decide +kernel
theorem dX10_part_80 : decode cX10_part 80 = .ok (.iconst 2, 1) := by decide +kernel
theorem dX10_part_81 : decode cX10_part 81 = .ok (.invokevirtual 183, 3) := by decide +kernel
theorem dX10_part_84 : decode cX10_part 84 = .ok (.aload_n 0, 1) := by decide +kernel
theorem dX10_part_85 : decode cX10_part 85 = .ok (.iload_n 1, 1) := by decide +kernel
theorem dX10_part_86 : decode cX10_part 86 = .ok (.invokevirtual 183, 3) := by decide +kernel
theorem dX10_part_89 : decode cX10_part 89 = .ok (.goto 8, 3) := by decide +kernel
theorem dX10_part_92 : decode cX10_part 92 = .ok (.aload_n 0, 1) := by decide +kernel
theorem dX10_part_93 : decode cX10_part 93 = .ok (.iconst 1, 1) := by decide +kernel
theorem dX10_part_94 : decode cX10_part 94 = .ok (.invokevirtual 168, 3) := by decide +kernel
theorem dX10_part_97 : decode cX10_part 97 = .ok (.aload_n 0, 1) := by decide +kernel
theorem dX10_part_98 : decode cX10_part 98 = .ok (.invokevirtual 161, 3) := by decide +kernel
theorem dX10_part_101 : decode cX10_part 101 = .ok (.ifCond .eq 7, 3) := by decide +kernel
theorem dX10_part_104 : decode cX10_part 104 = .ok (.aload_n 0, 1) := by decide +kernel
theorem dX10_part_105 : decode cX10_part 105 = .ok (.invokevirtual 165, 3) := by decide +kernel
theorem dX10_part_108 : decode cX10_part 108 = .ok (.return_, 1) := by decide +kernel
theorem dX10_deeper_0 : decode cX10_deeper 0 = .ok (.aload_n 0, 1) := by decide +kernel
theorem dX10_deeper_1 : decode cX10_deeper 1 = .ok (.getfield 196, 3) := by decide +kernel
theorem dX10_deeper_4 : decode cX10_deeper 4 = .ok (.bipush 6, 2) := by decide +kernel
theorem dX10_deeper_6 : decode cX10_deeper 6 = .ok (.if_icmp .ge 24, 3) := by decide +kernel
theorem dX10_deeper_9 : decode cX10_deeper 9 = .ok (.aload_n 0, 1) := by decide +kernel
theorem dX10_deeper_10 : decode cX10_deeper 10 = .ok (.dup, 1) := by decide +kernel
theorem dX10_deeper_11 : decode cX10_deeper 11 = .ok (.getfield 196, 3) := by decide +kernel
theorem dX10_deeper_14 : decode cX10_deeper 14 = .ok (.iconst 1, 1) := by decide +kernel
theorem dX10_deeper_15 : decode cX10_deeper 15 = .ok (.iadd, 1) := by decide +kernel
theorem dX10_deeper_16 : decode cX10_deeper 16 = .ok (.putfield 196, 3) := by decide +kernel
theorem dX10_deeper_19 : decode cX10_deeper 19 = .ok (.aload_n 0, 1) := by decide +kernel
theorem dX10_deeper_20 : decode cX10_deeper 20 = .ok (.getfield 63, 3) := by decide +kernel
theorem dX10_deeper_23 : decode cX10_deeper 23 = .ok (.aload_n 0, 1) := by decide +kernel
theorem dX10_deeper_24 : decode cX10_deeper 24 = .ok (.getfield 196, 3) := by decide +kernel
theorem dX10_deeper_27 : decode cX10_deeper 27 = .ok (.iconst 0, 1) := by decide +kernel
theorem dX10_deeper_28 : decode cX10_deeper 28 = .ok (.bastore, 1) := by decide +kernel
theorem dX10_deeper_29 : decode cX10_deeper 29 = .ok (.return_, 1) := by decide +kernel
theorem dX10_deeper_30 : decode cX10_deeper 30 = .ok (.aload_n 0, 1) := by decide +kernel
theorem dX10_deeper_31 : decode cX10_deeper 31 = .ok (.aload_n 0, 1) := by decide +kernel
theorem dX10_deeper_32 : decode cX10_deeper 32 = .ok (.getfield 135, 3) := by decide +kernel
theorem dX10_deeper_35 : decode cX10_deeper 35 = .ok (.iconst 2, 1) := by decide +kernel
theorem dX10_deeper_36 : decode cX10_deeper 36 = .ok (.if_icmp .eq 20, 3) := by decide +kernel
theorem dX10_deeper_39 : decode cX10_deeper 39 = .ok (.aload_n 0, 1) := by decide +kernel
theorem dX10_deeper_40 : decode cX10_deeper 40 = .ok (.getfield 135, 3) := by decide +kernel
theorem dX10_deeper_43 : decode cX10_deeper 43 = .ok (.iconst 1, 1) := by decide +kernel
theorem dX10_deeper_44 : decode cX10_deeper 44 = .ok (.if_icmp .eq 12, 3) := by decide +kernel
theorem dX10_deeper_47 : decode cX10_deeper 47 = .ok (.aload_n 0, 1) := by decide +kernel
theorem dX10_deeper_48 : decode cX10_deeper 48 = .ok (.bipush 40, 2) := by decide +kernel
theorem dX10_deeper_50 : decode cX10_deeper 50 = .ok (.invokevirtual 199, 3) := by decide +kernel
theorem dX10_deeper_53 : decode cX10_deeper 53 = .ok (.ifCond .eq 7, 3) := by decide +kernel
theorem dX10_deeper_56 : decode cX10_deeper 56 = .ok (.iconst 2, 1) := by decide +kernel
theorem dX10_deeper_57 : decode cX10_deeper 57 = .ok (.goto 4, 3) := by decide +kernel
theorem dX10_deeper_60 : decode cX10_deeper 60 = .ok (.iconst 1, 1) := by decide +kernel
theorem dX10_deeper_61 : decode cX10_deeper 61 = .ok (.invokevirtual 168, 3) := by decide +kernel
theorem dX10_deeper_64 : decode cX10_deeper 64 = .ok (.return_, 1) := by decide +kernel
theorem dX10_operand_0 : decode cX10_operand 0 = .ok (.iload_n 1, 1) := by decide +kernel
theorem dX10_operand_1 : decode cX10_operand 1 = .ok (.istore_n 2, 1) := by decide +kernel
theorem dX10_operand_2 : decode cX10_operand 2 = .ok (.iconst 1, 1) := by decide +kernel
theorem dX10_operand_3 : decode cX10_operand 3 = .ok (.istore_n 3, 1) := by decide +kernel
theorem dX10_operand_4 : decode cX10_operand 4 = .ok (.iload_n 3, 1) := by decide +kernel
theorem dX10_operand_5 : decode cX10_operand 5 = .ok (.ifCond .eq 115, 3) := by decide +kernel
theorem dX10_operand_8 : decode cX10_operand 8 = .ok (.aload_n 0, 1) := by decide +kernel
theorem dX10_operand_9 : decode cX10_operand 9 = .ok (.invokevirtual 161, 3) := by decide +kernel
theorem dX10_operand_12 : decode cX10_operand 12 = .ok (.ifCond .eq 108, 3) := by decide +kernel
theorem dX10_operand_15 : decode cX10_operand 15 = .ok (.iconst 0, 1) := by decide +kernel
theorem dX10_operand_16 : decode cX10_operand 16 = .ok (.istore 4, 2) := by decide +kernel
theorem dX10_operand_18 : decode cX10_operand 18 = .ok (.aload_n 0, 1) := by decide +kernel
theorem dX10_operand_19 : decode cX10_operand 19 = .ok (.invokevirtual 161, 3) := by decide +kernel
theorem dX10_operand_22 : decode cX10_operand 22 = .ok (.ifCond .eq 53, 3) := by decide +kernel
theorem dX10_operand_25 : decode cX10_operand 25 = .ok (.iload_n 2, 1) := by decide +kernel
theorem dX10_operand_26 : decode cX10_operand 26 = .ok (.ifCond .eq 49, 3) := by decide +kernel
theorem dX10_operand_29 : decode cX10_operand 29 = .ok (.aload_n 0, 1) := by decide +kernel
theorem dX10_operand_30 : decode cX10_operand 30 = .ok (.invokevirtual 186, 3) := by decide +kernel
theorem dX10_operand_33 : decode cX10_operand 33 = .ok (.bipush 19, 2) := by decide +kernel
theorem dX10_operand_35 : decode cX10_operand 35 = .ok (.if_icmp .ne 40, 3) := by decide +kernel
theorem dX10_operand_38 : decode cX10_operand 38 = .ok (.iload 4, 2) := by decide +kernel
theorem dX10_operand_40 : decode cX10_operand 40 = .ok (.bipush 6, 2) := by decide +kernel
theorem dX10_operand_42 : decode cX10_operand 42 = .ok (.if_icmp .ne 8, 3) := by decide +kernel
theorem dX10_operand_45 : decode cX10_operand 45 = .ok (.aload_n 0, 1) := by decide +kernel
theorem dX10_operand_46 : decode cX10_operand 46 = .ok (.iconst 2, 1) := by decide +kernel
theorem dX10_operand_47 : decode cX10_operand 47 = .ok (.invokevirtual 168, 3) := by decide +kernel
theorem dX10_operand_50 : decode cX10_operand 50 = .ok (.iinc 4 1, 3) := by decide +kernel
theorem dX10_operand_53 : decode cX10_operand 53 = .ok (.aload_n 0, 1) := by decide +kernel
theorem dX10_operand_54 : decode cX10_operand 54 = .ok (.invokevirtual 161, 3) := by decide +kernel
theorem dX10_operand_57 : decode cX10_operand 57 = .ok (.ifCond .ne 6, 3) := by decide +kernel
theorem dX10_operand_60 : decode cX10_operand 60 = .ok (.goto (-42), 3) := by decide +kernel
theorem dX10_operand_63 : decode cX10_operand 63 = .ok (.aload_n 0, 1) := by decide +kernel
theorem dX10_operand_64 : decode cX10_operand 64 = .ok (.iconst 3, 1) := by decide +kernel
theorem dX10_operand_65 : decode cX10_operand 65 = .ok (.invokevirtual 202, 3) := by decide +kernel
theorem dX10_operand_68 : decode cX10_operand 68 = .ok (.aload_n 0, 1) := by decide +kernel
theorem dX10_operand_69 : decode cX10_operand 69 = .ok (.invokevirtual 165, 3) := by decide +kernel
theorem dX10_operand_72 : decode cX10_operand 72 = .ok (.goto (-54), 3) := by decide +kernel
theorem dX10_operand_75 : decode cX10_operand 75 = .ok (.aload_n 0, 1) := by decide +kernel
theorem dX10_operand_76 : decode cX10_operand 76 = .ok (.invokevirtual 161, 3) := by decide +kernel
theorem dX10_operand_79 : decode cX10_operand 79 = .ok (.ifCond .eq 16, 3) := by decide +kernel
theorem dX10_operand_82 : decode cX10_operand 82 = .ok (.aload_n 0, 1) := by decide +kernel
theorem dX10_operand_83 : decode cX10_operand 83 = .ok (.bipush 40, 2) := by decide +kernel
theorem dX10_operand_85 : decode cX10_operand 85 = .ok (.invokevirtual 199, 3) := by decide +kernel
theorem dX10_operand_88 : decode cX10_operand 88 = .ok (.ifCond .eq 7, 3) := by decide +kernel
theorem dX10_operand_91 : decode cX10_operand 91 = .ok (.iconst 1, 1) := by decide +kernel
theorem dX10_operand_92 : decode cX10_operand 92 = .ok (.goto 4, 3) := by decide +kernel
theorem dX10_operand_95 : decode cX10_operand 95 = .ok (.iconst 0, 1) := by decide +kernel
theorem dX10_operand_96 : decode cX10_operand 96 = .ok (.istore_n 3, 1) := by decide +kernel
theorem dX10_operand_97 : decode cX10_operand 97 = .ok (.iload_n 3, 1) := by decide +kernel
theorem dX10_operand_98 : decode cX10_operand 98 = .ok (.ifCond .eq 19, 3) := by decide +kernel
theorem dX10_operand_101 : decode cX10_operand 101 = .ok (.aload_n 0, 1) := by decide +kernel
theorem dX10_operand_102 : decode cX10_operand 102 = .ok (.bipush 14, 2) := by decide +kernel
theorem dX10_operand_104 : decode cX10_operand 104 = .ok (.invokevirtual 202, 3) := by decide +kernel
theorem dX10_operand_107 : decode cX10_operand 107 = .ok (.aload_n 0, 1) := by decide +kernel
theorem dX10_operand_108 : decode cX10_operand 108 = .ok (.invokevirtual 165, 3) := by decide +kernel
theorem dX10_operand_111 : decode cX10_operand 111 = .ok (.aload_n 0, 1) := by decide +kernel
theorem dX10_operand_112 : decode cX10_operand 112 = .ok (.invokevirtual 205, 3) := by decide +kernel
theorem dX10_operand_115 : decode cX10_operand 115 = .ok (.iconst 1, 1) := by decide +kernel
theorem dX10_operand_116 : decode cX10_operand 116 = .ok (.istore_n 2, 1) := by decide +kernel
theorem dX10_operand_117 : decode cX10_operand 117 = .ok (.goto (-113), 3) := by decide +kernel
theorem dX10_operand_120 : decode cX10_operand 120 = .ok (.aload_n 0, 1) := by decide +kernel
theorem dX10_operand_121 : decode cX10_operand 121 = .ok (.invokevirtual 208, 3) := by decide +kernel
theorem dX10_operand_124 : decode cX10_operand 124 = .ok (.return_, 1) := by decide +kernel
theorem dX10_isOpened_0 : decode cX10_isOpened 0 = .ok (.aload_n 0, 1) := by decide +kernel
theorem dX10_isOpened_1 : decode cX10_isOpened 1 = .ok (.getfield 174, 3) := by decide +kernel
theorem dX10_isOpened_4 : decode cX10_isOpened 4 = .ok (.iconst 1, 1) := by decide +kernel
theorem dX10_isOpened_5 : decode cX10_isOpened 5 = .ok (.isub, 1) := by decide +kernel
theorem dX10_isOpened_6 : decode cX10_isOpened 6 = .ok (.istore_n 1, 1) := by decide +kernel
theorem dX10_isOpened_7 : decode cX10_isOpened 7 = .ok (.iload_n 1, 1) := by decide +kernel
theorem dX10_isOpened_8 : decode cX10_isOpened 8 = .ok (.ifCond .lt 21, 3) := by decide +kernel
theorem dX10_isOpened_11 : decode cX10_isOpened 11 = .ok (.aload_n 0, 1) := by decide +kernel
theorem dX10_isOpened_12 : decode cX10_isOpened 12 = .ok (.getfield 57, 3) := by decide +kernel
theorem dX10_isOpened_15 : decode cX10_isOpened 15 = .ok (.iload_n 1, 1) := by decide +kernel
theorem dX10_isOpened_16 : decode cX10_isOpened 16 = .ok (.iaload, 1) := by decide +kernel
theorem dX10_isOpened_17 : decode cX10_isOpened 17 = .ok (.invokestatic 177, 3) := by decide +kernel
theorem dX10_isOpened_20 : decode cX10_isOpened 20 = .ok (.ifCond .ne 9, 3) := by decide +kernel
theorem dX10_isOpened_23 : decode cX10_isOpened 23 = .ok (.iinc 1 (-1), 3) := by decide +kernel
theorem dX10_isOpened_26 : decode cX10_isOpened 26 = .ok (.goto (-19), 3) := by decide +kernel
theorem dX10_isOpened_29 : decode cX10_isOpened 29 = .ok (.iload_n 1, 1) := by decide +kernel
theorem dX10_isOpened_30 : decode cX10_isOpened 30 = .ok (.ifCond .lt 7, 3) := by decide +kernel
theorem dX10_isOpened_33 : decode cX10_isOpened 33 = .ok (.iconst 1, 1) := by decide +kernel
theorem dX10_isOpened_34 : decode cX10_isOpened 34 = .ok (.goto 4, 3) := by decide +kernel
theorem dX10_isOpened_37 : decode cX10_isOpened 37 = .ok (.iconst 0, 1) := by decide +kernel
theorem dX10_isOpened_38 : decode cX10_isOpened 38 = .ok (.ireturn, 1) := by decide +kernel
theorem dX10_closes_0 : decode cX10_closes 0 = .ok (.aload_n 0, 1) := by decide +kernel
theorem dX10_closes_1 : decode cX10_closes 1 = .ok (.iconst 0, 1) := by decide +kernel
theorem dX10_closes_2 : decode cX10_closes 2 = .ok (.invokevirtual 211, 3) := by decide +kernel
theorem dX10_closes_5 : decode cX10_closes 5 = .ok (.aload_n 0, 1) := by decide +kernel
theorem dX10_closes_6 : decode cX10_closes 6 = .ok (.dup, 1) := by decide +kernel
theorem dX10_closes_7 : decode cX10_closes 7 = .ok (.getfield 174, 3) := by decide +kernel
theorem dX10_closes_10 : decode cX10_closes 10 = .ok (.iconst 1, 1) := by decide +kernel
theorem dX10_closes_11 : decode cX10_closes 11 = .ok (.isub, 1) := by decide +kernel
theorem dX10_closes_12 : decode cX10_closes 12 = .ok (.putfield 174, 3) := by decide +kernel
theorem dX10_closes_15 : decode cX10_closes 15 = .ok (.aload_n 0, 1) := by decide +kernel
theorem dX10_closes_16 : decode cX10_closes 16 = .ok (.dup, 1) := by decide +kernel
theorem dX10_closes_17 : decode cX10_closes 17 = .ok (.getfield 196, 3) := by decide +kernel
theorem dX10_closes_20 : decode cX10_closes 20 = .ok (.iconst 1, 1) := by decide +kernel
theorem dX10_closes_21 : decode cX10_closes 21 = .ok (.isub, 1) := by decide +kernel
theorem dX10_closes_22 : decode cX10_closes 22 = .ok (.putfield 196, 3) := by decide +kernel
theorem dX10_closes_25 : decode cX10_closes 25 = .ok (.aload_n 0, 1) := by decide +kernel
theorem dX10_closes_26 : decode cX10_closes 26 = .ok (.invokevirtual 165, 3) := by decide +kernel
theorem dX10_closes_29 : decode cX10_closes 29 = .ok (.return_, 1) := by decide +kernel
theorem dX10_expression_0 : decode cX10_expression 0 = .ok (.aload_n 0, 1) := by decide +kernel
theorem dX10_expression_1 : decode cX10_expression 1 = .ok (.invokevirtual 161, 3) := by decide +kernel
theorem dX10_expression_4 : decode cX10_expression 4 = .ok (.ifCond .ne 4, 3) := by decide +kernel
theorem dX10_expression_7 : decode cX10_expression 7 = .ok (.return_, 1) := by decide +kernel
theorem dX10_expression_8 : decode cX10_expression 8 = .ok (.aload_n 0, 1) := by decide +kernel
theorem dX10_expression_9 : decode cX10_expression 9 = .ok (.iload_n 1, 1) := by decide +kernel
theorem dX10_expression_10 : decode cX10_expression 10 = .ok (.putfield 190, 3) := by decide +kernel
theorem dX10_expression_13 : decode cX10_expression 13 = .ok (.aload_n 0, 1) := by decide +kernel
theorem dX10_expression_14 : decode cX10_expression 14 = .ok (.iload_n 2, 1) := by decide +kernel
theorem dX10_expression_15 : decode cX10_expression 15 = .ok (.putfield 193, 3) := by decide +kernel
theorem dX10_expression_18 : decode cX10_expression 18 = .ok (.aload_n 0, 1) := by decide +kernel
theorem dX10_expression_19 : decode cX10_expression 19 = .ok (.iconst 0, 1) := by decide +kernel
theorem dX10_expression_20 : decode cX10_expression 20 = .ok (.putfield 174, 3) := by decide +kernel
theorem dX10_expression_23 : decode cX10_expression 23 = .ok (.aload_n 0, 1) := by decide +kernel
theorem dX10_expression_24 : decode cX10_expression 24 = .ok (.iconst 0, 1) := by decide +kernel
theorem dX10_expression_25 : decode cX10_expression 25 = .ok (.putfield 196, 3) := by decide +kernel
theorem dX10_expression_28 : decode cX10_expression 28 = .ok (.aload_n 0, 1) := by decide +kernel
theorem dX10_expression_29 : decode cX10_expression 29 = .ok (.invokevirtual 205, 3) := by decide +kernel
theorem dX10_expression_32 : decode cX10_expression 32 = .ok (.aload_n 0, 1) := by decide +kernel
theorem dX10_expression_33 : decode cX10_expression 33 = .ok (.iconst 1, 1) := by decide +kernel
theorem dX10_expression_34 : decode cX10_expression 34 = .ok (.invokevirtual 214, 3) := by decide +kernel
theorem dX10_expression_37 : decode cX10_expression 37 = .ok (.iconst 1, 1) := by decide +kernel
theorem dX10_expression_38 : decode cX10_expression 38 = .ok (.istore_n 3, 1) := by decide +kernel
theorem dX10_expression_39 : decode cX10_expression 39 = .ok (.iload_n 3, 1) := by decide +kernel
theorem dX10_expression_40 : decode cX10_expression 40 = .ok (.ifCond .eq 300, 3) := by decide +kernel
theorem dX10_expression_43 : decode cX10_expression 43 = .ok (.aload_n 0, 1) := by decide +kernel
theorem dX10_expression_44 : decode cX10_expression 44 = .ok (.invokevirtual 161, 3) := by decide +kernel
theorem dX10_expression_47 : decode cX10_expression 47 = .ok (.ifCond .eq 293, 3) := by decide +kernel
theorem dX10_expression_50 : decode cX10_expression 50 = .ok (.aload_n 0, 1) := by decide +kernel
theorem dX10_expression_51 : decode cX10_expression 51 = .ok (.invokevirtual 186, 3) := by decide +kernel
theorem dX10_expression_54 : decode cX10_expression 54 = .ok (.istore 4, 2) := by decide +kernel
theorem dX10_expression_56 : decode cX10_expression 56 = .ok (.iload 4, 2) := by decide +kernel
theorem dX10_expression_58 : decode cX10_expression 58 = .ok (.bipush 17, 2) := by decide +kernel
theorem dX10_expression_60 : decode cX10_expression 60 = .ok (.if_icmp .eq 10, 3) := by decide +kernel
theorem dX10_expression_63 : decode cX10_expression 63 = .ok (.iload 4, 2) := by decide +kernel
theorem dX10_expression_65 : decode cX10_expression 65 = .ok (.bipush 18, 2) := by decide +kernel
theorem dX10_expression_67 : decode cX10_expression 67 = .ok (.if_icmp .ne 57, 3) := by decide +kernel
theorem dX10_expression_70 : decode cX10_expression 70 = .ok (.aload_n 0, 1) := by decide +kernel
theorem dX10_expression_71 : decode cX10_expression 71 = .ok (.iload 4, 2) := by decide +kernel
theorem dX10_expression_73 : decode cX10_expression 73 = .ok (.bipush 17, 2) := by decide +kernel
theorem dX10_expression_75 : decode cX10_expression 75 = .ok (.if_icmp .ne 7, 3) := by decide +kernel
theorem dX10_expression_78 : decode cX10_expression 78 = .ok (.iconst 2, 1) := by decide +kernel
theorem dX10_expression_79 : decode cX10_expression 79 = .ok (.goto 4, 3) := by decide +kernel
theorem dX10_expression_82 : decode cX10_expression 82 = .ok (.iconst 1, 1) := by decide +kernel
theorem dX10_expression_83 : decode cX10_expression 83 = .ok (.invokevirtual 211, 3) := by decide +kernel
theorem dX10_expression_86 : decode cX10_expression 86 = .ok (.aload_n 0, 1) := by decide +kernel
theorem dX10_expression_87 : decode cX10_expression 87 = .ok (.iload 4, 2) := by decide +kernel
theorem dX10_expression_89 : decode cX10_expression 89 = .ok (.bipush 17, 2) := by decide +kernel
theorem dX10_expression_91 : decode cX10_expression 91 = .ok (.if_icmp .ne 7, 3) := by decide +kernel
theorem dX10_expression_94 : decode cX10_expression 94 = .ok (.iconst 4, 1) := by decide +kernel
theorem dX10_expression_95 : decode cX10_expression 95 = .ok (.goto 4, 3) := by decide +kernel
theorem dX10_expression_98 : decode cX10_expression 98 = .ok (.iconst 5, 1) := by decide +kernel
theorem dX10_expression_99 : decode cX10_expression 99 = .ok (.invokevirtual 202, 3) := by decide +kernel
theorem dX10_expression_102 : decode cX10_expression 102 = .ok (.aload_n 0, 1) := by decide +kernel
theorem dX10_expression_103 : decode cX10_expression 103 = .ok (.getfield 63, 3) := by decide +kernel
theorem dX10_expression_106 : decode cX10_expression 106 = .ok (.aload_n 0, 1) := by decide +kernel
theorem dX10_expression_107 : decode cX10_expression 107 = .ok (.getfield 196, 3) := by decide +kernel
theorem dX10_expression_110 : decode cX10_expression 110 = .ok (.iconst 0, 1) := by decide +kernel
theorem dX10_expression_111 : decode cX10_expression 111 = .ok (.bastore, 1) := by decide +kernel
theorem dX10_expression_112 : decode cX10_expression 112 = .ok (.aload_n 0, 1) := by decide +kernel
theorem dX10_expression_113 : decode cX10_expression 113 = .ok (.invokevirtual 165, 3) := by decide +kernel
theorem dX10_expression_116 : decode cX10_expression 116 = .ok (.aload_n 0, 1) := by decide +kernel
theorem dX10_expression_117 : decode cX10_expression 117 = .ok (.iconst 1, 1) := by decide +kernel
theorem dX10_expression_118 : decode cX10_expression 118 = .ok (.invokevirtual 214, 3) := by decide +kernel
theorem dX10_expression_121 : decode cX10_expression 121 = .ok (.goto 216, 3) := by decide +kernel
theorem dX10_expression_124 : decode cX10_expression 124 = .ok (.aload_n 0, 1) := by decide +kernel
theorem dX10_expression_125 : decode cX10_expression 125 = .ok (.bipush 60, 2) := by decide +kernel
theorem dX10_expression_127 : decode cX10_expression 127 = .ok (.invokevirtual 199, 3) := by decide +kernel
theorem dX10_expression_130 : decode cX10_expression 130 = .ok (.ifCond .ne 12, 3) := by decide +kernel
theorem dX10_expression_133 : decode cX10_expression 133 = .ok (.aload_n 0, 1) := by decide +kernel
theorem dX10_expression_134 : decode cX10_expression 134 = .ok (.bipush 61, 2) := by decide +kernel
theorem dX10_expression_136 : decode cX10_expression 136 = .ok (.invokevirtual 199, 3) := by decide +kernel
theorem dX10_expression_139 : decode cX10_expression 139 = .ok (.ifCond .eq 62, 3) := by decide +kernel
theorem dX10_expression_142 : decode cX10_expression 142 = .ok (.aload_n 0, 1) := by decide +kernel
theorem dX10_expression_143 : decode cX10_expression 143 = .ok (.getfield 63, 3) := by decide +kernel
theorem dX10_expression_146 : decode cX10_expression 146 = .ok (.aload_n 0, 1) := by decide +kernel
theorem dX10_expression_147 : decode cX10_expression 147 = .ok (.getfield 196, 3) := by decide +kernel
theorem dX10_expression_150 : decode cX10_expression 150 = .ok (.baload, 1) := by decide +kernel
theorem dX10_expression_151 : decode cX10_expression 151 = .ok (.ifCond .ne 50, 3) := by decide +kernel
theorem dX10_expression_154 : decode cX10_expression 154 = .ok (.aload_n 0, 1) := by decide +kernel
theorem dX10_expression_155 : decode cX10_expression 155 = .ok (.iconst 4, 1) := by decide +kernel
theorem dX10_expression_156 : decode cX10_expression 156 = .ok (.invokevirtual 211, 3) := by decide +kernel
theorem dX10_expression_159 : decode cX10_expression 159 = .ok (.aload_n 0, 1) := by decide +kernel
theorem dX10_expression_160 : decode cX10_expression 160 = .ok (.aload_n 0, 1) := by decide +kernel
theorem dX10_expression_161 : decode cX10_expression 161 = .ok (.bipush 60, 2) := by decide +kernel
theorem dX10_expression_163 : decode cX10_expression 163 = .ok (.invokevirtual 199, 3) := by decide +kernel
theorem dX10_expression_166 : decode cX10_expression 166 = .ok (.ifCond .eq 8, 3) := by decide +kernel
theorem dX10_expression_169 : decode cX10_expression 169 = .ok (.bipush 6, 2) := by decide +kernel
theorem dX10_expression_171 : decode cX10_expression 171 = .ok (.goto 5, 3) := by decide +kernel
theorem dX10_expression_174 : decode cX10_expression 174 = .ok (.bipush 7, 2) := by decide +kernel
theorem dX10_expression_176 : decode cX10_expression 176 = .ok (.invokevirtual 202, 3) := by decide +kernel
theorem dX10_expression_179 : decode cX10_expression 179 = .ok (.aload_n 0, 1) := by decide +kernel
theorem dX10_expression_180 : decode cX10_expression 180 = .ok (.getfield 63, 3) := by decide +kernel
theorem dX10_expression_183 : decode cX10_expression 183 = .ok (.aload_n 0, 1) := by decide +kernel
theorem dX10_expression_184 : decode cX10_expression 184 = .ok (.getfield 196, 3) := by decide +kernel
theorem dX10_expression_187 : decode cX10_expression 187 = .ok (.iconst 1, 1) := by decide +kernel
theorem dX10_expression_188 : decode cX10_expression 188 = .ok (.bastore, 1) := by decide +kernel
theorem dX10_expression_189 : decode cX10_expression 189 = .ok (.aload_n 0, 1) := by decide +kernel
theorem dX10_expression_190 : decode cX10_expression 190 = .ok (.invokevirtual 165, 3) := by decide +kernel
theorem dX10_expression_193 : decode cX10_expression 193 = .ok (.aload_n 0, 1) := by decide +kernel
theorem dX10_expression_194 : decode cX10_expression 194 = .ok (.iconst 0, 1) := by decide +kernel
theorem dX10_expression_195 : decode cX10_expression 195 = .ok (.invokevirtual 214, 3) := by decide +kernel
theorem dX10_expression_198 : decode cX10_expression 198 = .ok (.goto 139, 3) := by decide +kernel
theorem dX10_expression_201 : decode cX10_expression 201 = .ok (.aload_n 0, 1) := by decide +kernel
theorem dX10_expression_202 : decode cX10_expression 202 = .ok (.bipush 43, 2) := by decide +kernel
theorem dX10_expression_204 : decode cX10_expression 204 = .ok (.invokevirtual 199, 3) := by decide +kernel
theorem dX10_expression_207 : decode cX10_expression 207 = .ok (.ifCond .ne 12, 3) := by decide +kernel
theorem dX10_expression_210 : decode cX10_expression 210 = .ok (.aload_n 0, 1) := by decide +kernel
theorem dX10_expression_211 : decode cX10_expression 211 = .ok (.bipush 45, 2) := by decide +kernel
theorem dX10_expression_213 : decode cX10_expression 213 = .ok (.invokevirtual 199, 3) := by decide +kernel
theorem dX10_expression_216 : decode cX10_expression 216 = .ok (.ifCond .eq 40, 3) := by decide +kernel
theorem dX10_expression_219 : decode cX10_expression 219 = .ok (.aload_n 0, 1) := by decide +kernel
theorem dX10_expression_220 : decode cX10_expression 220 = .ok (.iconst 5, 1) := by decide +kernel
theorem dX10_expression_221 : decode cX10_expression 221 = .ok (.invokevirtual 211, 3) := by decide +kernel
theorem dX10_expression_224 : decode cX10_expression 224 = .ok (.aload_n 0, 1) := by decide +kernel
theorem dX10_expression_225 : decode cX10_expression 225 = .ok (.aload_n 0, 1) := by decide +kernel
theorem dX10_expression_226 : decode cX10_expression 226 = .ok (.bipush 43, 2) := by decide +kernel
theorem dX10_expression_228 : decode cX10_expression 228 = .ok (.invokevirtual 199, 3) := by decide +kernel
theorem dX10_expression_231 : decode cX10_expression 231 = .ok (.ifCond .eq 8, 3) := by decide +kernel
theorem dX10_expression_234 : decode cX10_expression 234 = .ok (.bipush 8, 2) := by decide +kernel
theorem dX10_expression_236 : decode cX10_expression 236 = .ok (.goto 5, 3) := by decide +kernel
theorem dX10_expression_239 : decode cX10_expression 239 = .ok (.bipush 9, 2) := by decide +kernel
theorem dX10_expression_241 : decode cX10_expression 241 = .ok (.invokevirtual 202, 3) := by decide +kernel
theorem dX10_expression_244 : decode cX10_expression 244 = .ok (.aload_n 0, 1) := by decide +kernel
theorem dX10_expression_245 : decode cX10_expression 245 = .ok (.invokevirtual 165, 3) := by decide +kernel
theorem dX10_expression_248 : decode cX10_expression 248 = .ok (.aload_n 0, 1) := by decide +kernel
theorem dX10_expression_249 : decode cX10_expression 249 = .ok (.iconst 0, 1) := by decide +kernel
theorem dX10_expression_250 : decode cX10_expression 250 = .ok (.invokevirtual 214, 3) := by decide +kernel
theorem dX10_expression_253 : decode cX10_expression 253 = .ok (.goto 84, 3) := by decide +kernel
theorem dX10_expression_256 : decode cX10_expression 256 = .ok (.aload_n 0, 1) := by decide +kernel
theorem dX10_expression_257 : decode cX10_expression 257 = .ok (.bipush 42, 2) := by decide +kernel
theorem dX10_expression_259 : decode cX10_expression 259 = .ok (.invokevirtual 199, 3) := by decide +kernel
theorem dX10_expression_262 : decode cX10_expression 262 = .ok (.ifCond .ne 12, 3) := by decide +kernel
theorem dX10_expression_265 : decode cX10_expression 265 = .ok (.aload_n 0, 1) := by decide +kernel
theorem dX10_expression_266 : decode cX10_expression 266 = .ok (.bipush 47, 2) := by decide +kernel
theorem dX10_expression_268 : decode cX10_expression 268 = .ok (.invokevirtual 199, 3) := by decide +kernel
theorem dX10_expression_271 : decode cX10_expression 271 = .ok (.ifCond .eq 41, 3) := by decide +kernel
theorem dX10_expression_274 : decode cX10_expression 274 = .ok (.aload_n 0, 1) := by decide +kernel
theorem dX10_expression_275 : decode cX10_expression 275 = .ok (.bipush 6, 2) := by decide +kernel
theorem dX10_expression_277 : decode cX10_expression 277 = .ok (.invokevirtual 211, 3) := by decide +kernel
theorem dX10_expression_280 : decode cX10_expression 280 = .ok (.aload_n 0, 1) := by decide +kernel
theorem dX10_expression_281 : decode cX10_expression 281 = .ok (.aload_n 0, 1) := by decide +kernel
theorem dX10_expression_282 : decode cX10_expression 282 = .ok (.bipush 42, 2) := by decide +kernel
theorem dX10_expression_284 : decode cX10_expression 284 = .ok (.invokevirtual 199, 3) := by decide +kernel
theorem dX10_expression_287 : decode cX10_expression 287 = .ok (.ifCond .eq 8, 3) := by decide +kernel
theorem dX10_expression_290 : decode cX10_expression 290 = .ok (.bipush 10, 2) := by decide +kernel
theorem dX10_expression_292 : decode cX10_expression 292 = .ok (.goto 5, 3) := by decide +kernel
theorem dX10_expression_295 : decode cX10_expression 295 = .ok (.bipush 11, 2) := by decide +kernel
theorem dX10_expression_297 : decode cX10_expression 297 = .ok (.invokevirtual 202, 3) := by decide +kernel
theorem dX10_expression_300 : decode cX10_expression 300 = .ok (.aload_n 0, 1) := by decide +kernel
theorem dX10_expression_301 : decode cX10_expression 301 = .ok (.invokevirtual 165, 3) := by decide +kernel
theorem dX10_expression_304 : decode cX10_expression 304 = .ok (.aload_n 0, 1) := by decide +kernel
theorem dX10_expression_305 : decode cX10_expression 305 = .ok (.iconst 0, 1) := by decide +kernel
theorem dX10_expression_306 : decode cX10_expression 306 = .ok (.invokevirtual 214, 3) := by decide +kernel
theorem dX10_expression_309 : decode cX10_expression 309 = .ok (.goto 28, 3) := by decide +kernel
theorem dX10_expression_312 : decode cX10_expression 312 = .ok (.aload_n 0, 1) := by decide +kernel
theorem dX10_expression_313 : decode cX10_expression 313 = .ok (.bipush 41, 2) := by decide +kernel
theorem dX10_expression_315 : decode cX10_expression 315 = .ok (.invokevirtual 199, 3) := by decide +kernel
theorem dX10_expression_318 : decode cX10_expression 318 = .ok (.ifCond .eq 17, 3) := by decide +kernel
theorem dX10_expression_321 : decode cX10_expression 321 = .ok (.aload_n 0, 1) := by decide +kernel
theorem dX10_expression_322 : decode cX10_expression 322 = .ok (.invokevirtual 218, 3) := by decide +kernel
theorem dX10_expression_325 : decode cX10_expression 325 = .ok (.ifCond .eq 10, 3) := by decide +kernel
theorem dX10_expression_328 : decode cX10_expression 328 = .ok (.aload_n 0, 1) := by decide +kernel
theorem dX10_expression_329 : decode cX10_expression 329 = .ok (.invokevirtual 221, 3) := by decide +kernel
theorem dX10_expression_332 : decode cX10_expression 332 = .ok (.goto 5, 3) := by decide +kernel
theorem dX10_expression_335 : decode cX10_expression 335 = .ok (.iconst 0, 1) := by decide +kernel
theorem dX10_expression_336 : decode cX10_expression 336 = .ok (.istore_n 3, 1) := by decide +kernel
theorem dX10_expression_337 : decode cX10_expression 337 = .ok (.goto (-298), 3) := by decide +kernel
theorem dX10_expression_340 : decode cX10_expression 340 = .ok (.aload_n 0, 1) := by decide +kernel
theorem dX10_expression_341 : decode cX10_expression 341 = .ok (.invokevirtual 161, 3) := by decide +kernel
theorem dX10_expression_344 : decode cX10_expression 344 = .ok (.ifCond .eq 16, 3) := by decide +kernel
theorem dX10_expression_347 : decode cX10_expression 347 = .ok (.aload_n 0, 1) := by decide +kernel
theorem dX10_expression_348 : decode cX10_expression 348 = .ok (.getfield 196, 3) := by decide +kernel
theorem dX10_expression_351 : decode cX10_expression 351 = .ok (.iconst 1, 1) := by decide +kernel
theorem dX10_expression_352 : decode cX10_expression 352 = .ok (.if_icmp .le 8, 3) := by decide +kernel
theorem dX10_expression_355 : decode cX10_expression 355 = .ok (.aload_n 0, 1) := by decide +kernel
theorem dX10_expression_356 : decode cX10_expression 356 = .ok (.iconst 1, 1) := by decide +kernel
theorem dX10_expression_357 : decode cX10_expression 357 = .ok (.invokevirtual 168, 3) := by decide +kernel
theorem dX10_expression_360 : decode cX10_expression 360 = .ok (.aload_n 0, 1) := by decide +kernel
theorem dX10_expression_361 : decode cX10_expression 361 = .ok (.iconst 0, 1) := by decide +kernel
theorem dX10_expression_362 : decode cX10_expression 362 = .ok (.invokevirtual 211, 3) := by decide +kernel
theorem dX10_expression_365 : decode cX10_expression 365 = .ok (.aload_n 0, 1) := by decide +kernel
theorem dX10_expression_366 : decode cX10_expression 366 = .ok (.iconst 0, 1) := by decide +kernel
theorem dX10_expression_367 : decode cX10_expression 367 = .ok (.invokevirtual 183, 3) := by decide +kernel
theorem dX10_expression_370 : decode cX10_expression 370 = .ok (.return_, 1) := by decide +kernel
theorem dX10_begins_0 : decode cX10_begins 0 = .ok (.iload_n 1, 1) := by decide +kernel
theorem dX10_begins_1 : decode cX10_begins 1 = .ok (.ifCond .eq 8, 3) := by decide +kernel
theorem dX10_begins_4 : decode cX10_begins 4 = .ok (.aload_n 0, 1) := by decide +kernel
theorem dX10_begins_5 : decode cX10_begins 5 = .ok (.iconst 2, 1) := by decide +kernel
theorem dX10_begins_6 : decode cX10_begins 6 = .ok (.invokevirtual 168, 3) := by decide +kernel
theorem dX10_begins_9 : decode cX10_begins 9 = .ok (.iload_n 2, 1) := by decide +kernel
theorem dX10_begins_10 : decode cX10_begins 10 = .ok (.ifCond .eq 8, 3) := by decide +kernel
theorem dX10_begins_13 : decode cX10_begins 13 = .ok (.aload_n 0, 1) := by decide +kernel
theorem dX10_begins_14 : decode cX10_begins 14 = .ok (.iconst 4, 1) := by decide +kernel
theorem dX10_begins_15 : decode cX10_begins 15 = .ok (.invokevirtual 168, 3) := by decide +kernel
theorem dX10_begins_18 : decode cX10_begins 18 = .ok (.iload_n 3, 1) := by decide +kernel
theorem dX10_begins_19 : decode cX10_begins 19 = .ok (.ifCond .eq 8, 3) := by decide +kernel
theorem dX10_begins_22 : decode cX10_begins 22 = .ok (.aload_n 0, 1) := by decide +kernel
theorem dX10_begins_23 : decode cX10_begins 23 = .ok (.iconst 5, 1) := by decide +kernel
theorem dX10_begins_24 : decode cX10_begins 24 = .ok (.invokevirtual 168, 3) := by decide +kernel
theorem dX10_begins_27 : decode cX10_begins 27 = .ok (.aload_n 0, 1) := by decide +kernel
theorem dX10_begins_28 : decode cX10_begins 28 = .ok (.invokevirtual 161, 3) := by decide +kernel
theorem dX10_begins_31 : decode cX10_begins 31 = .ok (.ifCond .ne 5, 3) := by decide +kernel
theorem dX10_begins_34 : decode cX10_begins 34 = .ok (.iconst 0, 1) := by decide +kernel
theorem dX10_begins_35 : decode cX10_begins 35 = .ok (.ireturn, 1) := by decide +kernel
theorem dX10_begins_36 : decode cX10_begins 36 = .ok (.aload_n 0, 1) := by decide +kernel
theorem dX10_begins_37 : decode cX10_begins 37 = .ok (.invokevirtual 165, 3) := by decide +kernel
theorem dX10_begins_40 : decode cX10_begins 40 = .ok (.iconst 1, 1) := by decide +kernel
theorem dX10_begins_41 : decode cX10_begins 41 = .ok (.ireturn, 1) := by decide +kernel
theorem dX10_readsPerson_0 : decode cX10_readsPerson 0 = .ok (.aload_n 0, 1) := by decide +kernel
theorem dX10_readsPerson_1 : decode cX10_readsPerson 1 = .ok (.getfield 224, 3) := by decide +kernel
theorem dX10_readsPerson_4 : decode cX10_readsPerson 4 = .ok (.istore_n 2, 1) := by decide +kernel
theorem dX10_readsPerson_5 : decode cX10_readsPerson 5 = .ok (.aload_n 0, 1) := by decide +kernel
theorem dX10_readsPerson_6 : decode cX10_readsPerson 6 = .ok (.getfield 51, 3) := by decide +kernel
theorem dX10_readsPerson_9 : decode cX10_readsPerson 9 = .ok (.bipush 49, 2) := by decide +kernel
theorem dX10_readsPerson_11 : decode cX10_readsPerson 11 = .ok (.iload_n 2, 1) := by decide +kernel
theorem dX10_readsPerson_12 : decode cX10_readsPerson 12 = .ok (.iadd, 1) := by decide +kernel
theorem dX10_readsPerson_13 : decode cX10_readsPerson 13 = .ok (.aload_n 0, 1) := by decide +kernel
theorem dX10_readsPerson_14 : decode cX10_readsPerson 14 = .ok (.iconst 0, 1) := by decide +kernel
theorem dX10_readsPerson_15 : decode cX10_readsPerson 15 = .ok (.bipush 9, 2) := by decide +kernel
theorem dX10_readsPerson_17 : decode cX10_readsPerson 17 = .ok (.invokevirtual 227, 3) := by decide +kernel
theorem dX10_readsPerson_20 : decode cX10_readsPerson 20 = .ok (.iastore, 1) := by decide +kernel
theorem dX10_readsPerson_21 : decode cX10_readsPerson 21 = .ok (.aload_n 0, 1) := by decide +kernel
theorem dX10_readsPerson_22 : decode cX10_readsPerson 22 = .ok (.getfield 51, 3) := by decide +kernel
theorem dX10_readsPerson_25 : decode cX10_readsPerson 25 = .ok (.bipush 41, 2) := by decide +kernel
theorem dX10_readsPerson_27 : decode cX10_readsPerson 27 = .ok (.iload_n 2, 1) := by decide +kernel
theorem dX10_readsPerson_28 : decode cX10_readsPerson 28 = .ok (.iadd, 1) := by decide +kernel
theorem dX10_readsPerson_29 : decode cX10_readsPerson 29 = .ok (.iconst 0, 1) := by decide +kernel
theorem dX10_readsPerson_30 : decode cX10_readsPerson 30 = .ok (.iastore, 1) := by decide +kernel
theorem dX10_readsPerson_31 : decode cX10_readsPerson 31 = .ok (.aload_n 0, 1) := by decide +kernel
theorem dX10_readsPerson_32 : decode cX10_readsPerson 32 = .ok (.getfield 60, 3) := by decide +kernel
theorem dX10_readsPerson_35 : decode cX10_readsPerson 35 = .ok (.iload_n 2, 1) := by decide +kernel
theorem dX10_readsPerson_36 : decode cX10_readsPerson 36 = .ok (.iload_n 1, 1) := by decide +kernel
theorem dX10_readsPerson_37 : decode cX10_readsPerson 37 = .ok (.bastore, 1) := by decide +kernel
theorem dX10_readsPerson_38 : decode cX10_readsPerson 38 = .ok (.iconst 0, 1) := by decide +kernel
theorem dX10_readsPerson_39 : decode cX10_readsPerson 39 = .ok (.istore_n 3, 1) := by decide +kernel
theorem dX10_readsPerson_40 : decode cX10_readsPerson 40 = .ok (.iconst 1, 1) := by decide +kernel
theorem dX10_readsPerson_41 : decode cX10_readsPerson 41 = .ok (.istore 4, 2) := by decide +kernel
theorem dX10_readsPerson_43 : decode cX10_readsPerson 43 = .ok (.iload 4, 2) := by decide +kernel
theorem dX10_readsPerson_45 : decode cX10_readsPerson 45 = .ok (.ifCond .eq 96, 3) := by decide +kernel
theorem dX10_readsPerson_48 : decode cX10_readsPerson 48 = .ok (.aload_n 0, 1) := by decide +kernel
theorem dX10_readsPerson_49 : decode cX10_readsPerson 49 = .ok (.invokevirtual 161, 3) := by decide +kernel
theorem dX10_readsPerson_52 : decode cX10_readsPerson 52 = .ok (.ifCond .eq 89, 3) := by decide +kernel
theorem dX10_readsPerson_55 : decode cX10_readsPerson 55 = .ok (.iload_n 3, 1) := by decide +kernel
theorem dX10_readsPerson_56 : decode cX10_readsPerson 56 = .ok (.bipush 6, 2) := by decide +kernel
theorem dX10_readsPerson_58 : decode cX10_readsPerson 58 = .ok (.if_icmp .ne 16, 3) := by decide +kernel
theorem dX10_readsPerson_61 : decode cX10_readsPerson 61 = .ok (.aload_n 0, 1) := by decide +kernel
theorem dX10_readsPerson_62 : decode cX10_readsPerson 62 = .ok (.getfield 135, 3) := by decide +kernel
theorem dX10_readsPerson_65 : decode cX10_readsPerson 65 = .ok (.iconst 2, 1) := by decide +kernel
theorem dX10_readsPerson_66 : decode cX10_readsPerson 66 = .ok (.if_icmp .ne 8, 3) := by decide +kernel
theorem dX10_readsPerson_69 : decode cX10_readsPerson 69 = .ok (.aload_n 0, 1) := by decide +kernel
theorem dX10_readsPerson_70 : decode cX10_readsPerson 70 = .ok (.iconst 2, 1) := by decide +kernel
theorem dX10_readsPerson_71 : decode cX10_readsPerson 71 = .ok (.invokevirtual 168, 3) := by decide +kernel
theorem dX10_readsPerson_74 : decode cX10_readsPerson 74 = .ok (.aload_n 0, 1) := by decide +kernel
theorem dX10_readsPerson_75 : decode cX10_readsPerson 75 = .ok (.aload_n 0, 1) := by decide +kernel
theorem dX10_readsPerson_76 : decode cX10_readsPerson 76 = .ok (.getfield 231, 3) := by decide +kernel
theorem dX10_readsPerson_79 : decode cX10_readsPerson 79 = .ok (.iconst (-1), 1) := by decide +kernel
theorem dX10_readsPerson_80 : decode cX10_readsPerson 80 = .ok (.if_icmp .ne 7, 3) := by decide +kernel
theorem dX10_readsPerson_83 : decode cX10_readsPerson 83 = .ok (.iconst 3, 1) := by decide +kernel
theorem dX10_readsPerson_84 : decode cX10_readsPerson 84 = .ok (.goto 7, 3) := by decide +kernel
theorem dX10_readsPerson_87 : decode cX10_readsPerson 87 = .ok (.aload_n 0, 1) := by decide +kernel
theorem dX10_readsPerson_88 : decode cX10_readsPerson 88 = .ok (.getfield 231, 3) := by decide +kernel
theorem dX10_readsPerson_91 : decode cX10_readsPerson 91 = .ok (.invokevirtual 234, 3) := by decide +kernel
theorem dX10_readsPerson_94 : decode cX10_readsPerson 94 = .ok (.ifCond .ne 4, 3) := by decide +kernel
theorem dX10_readsPerson_97 : decode cX10_readsPerson 97 = .ok (.return_, 1) := by decide +kernel
theorem dX10_readsPerson_98 : decode cX10_readsPerson 98 = .ok (.aload_n 0, 1) := by decide +kernel
theorem dX10_readsPerson_99 : decode cX10_readsPerson 99 = .ok (.getfield 51, 3) := by decide +kernel
theorem dX10_readsPerson_102 : decode cX10_readsPerson 102 = .ok (.bipush 57, 2) := by decide +kernel
theorem dX10_readsPerson_104 : decode cX10_readsPerson 104 = .ok (.bipush 6, 2) := by decide +kernel
theorem dX10_readsPerson_106 : decode cX10_readsPerson 106 = .ok (.iload_n 2, 1) := by decide +kernel
theorem dX10_readsPerson_107 : decode cX10_readsPerson 107 = .ok (.imul, 1) := by decide +kernel
theorem dX10_readsPerson_108 : decode cX10_readsPerson 108 = .ok (.iadd, 1) := by decide +kernel
theorem dX10_readsPerson_109 : decode cX10_readsPerson 109 = .ok (.iload_n 3, 1) := by decide +kernel
theorem dX10_readsPerson_110 : decode cX10_readsPerson 110 = .ok (.iadd, 1) := by decide +kernel
theorem dX10_readsPerson_111 : decode cX10_readsPerson 111 = .ok (.aload_n 0, 1) := by decide +kernel
theorem dX10_readsPerson_112 : decode cX10_readsPerson 112 = .ok (.getfield 129, 3) := by decide +kernel
theorem dX10_readsPerson_115 : decode cX10_readsPerson 115 = .ok (.iastore, 1) := by decide +kernel
theorem dX10_readsPerson_116 : decode cX10_readsPerson 116 = .ok (.iinc 3 1, 3) := by decide +kernel
theorem dX10_readsPerson_119 : decode cX10_readsPerson 119 = .ok (.aload_n 0, 1) := by decide +kernel
theorem dX10_readsPerson_120 : decode cX10_readsPerson 120 = .ok (.invokevirtual 165, 3) := by decide +kernel
theorem dX10_readsPerson_123 : decode cX10_readsPerson 123 = .ok (.aload_n 0, 1) := by decide +kernel
theorem dX10_readsPerson_124 : decode cX10_readsPerson 124 = .ok (.getfield 135, 3) := by decide +kernel
theorem dX10_readsPerson_127 : decode cX10_readsPerson 127 = .ok (.iconst 2, 1) := by decide +kernel
theorem dX10_readsPerson_128 : decode cX10_readsPerson 128 = .ok (.if_icmp .ne 7, 3) := by decide +kernel
theorem dX10_readsPerson_131 : decode cX10_readsPerson 131 = .ok (.iconst 1, 1) := by decide +kernel
theorem dX10_readsPerson_132 : decode cX10_readsPerson 132 = .ok (.goto 4, 3) := by decide +kernel
theorem dX10_readsPerson_135 : decode cX10_readsPerson 135 = .ok (.iconst 0, 1) := by decide +kernel
theorem dX10_readsPerson_136 : decode cX10_readsPerson 136 = .ok (.istore 4, 2) := by decide +kernel
theorem dX10_readsPerson_138 : decode cX10_readsPerson 138 = .ok (.goto (-95), 3) := by decide +kernel
theorem dX10_readsPerson_141 : decode cX10_readsPerson 141 = .ok (.aload_n 0, 1) := by decide +kernel
theorem dX10_readsPerson_142 : decode cX10_readsPerson 142 = .ok (.getfield 45, 3) := by decide +kernel
theorem dX10_readsPerson_145 : decode cX10_readsPerson 145 = .ok (.iload_n 2, 1) := by decide +kernel
theorem dX10_readsPerson_146 : decode cX10_readsPerson 146 = .ok (.iload_n 3, 1) := by decide +kernel
theorem dX10_readsPerson_147 : decode cX10_readsPerson 147 = .ok (.iastore, 1) := by decide +kernel
theorem dX10_readsPerson_148 : decode cX10_readsPerson 148 = .ok (.aload_n 0, 1) := by decide +kernel
theorem dX10_readsPerson_149 : decode cX10_readsPerson 149 = .ok (.invokevirtual 161, 3) := by decide +kernel
theorem dX10_readsPerson_152 : decode cX10_readsPerson 152 = .ok (.ifCond .eq 13, 3) := by decide +kernel
theorem dX10_readsPerson_155 : decode cX10_readsPerson 155 = .ok (.aload_n 0, 1) := by decide +kernel
theorem dX10_readsPerson_156 : decode cX10_readsPerson 156 = .ok (.dup, 1) := by decide +kernel
theorem dX10_readsPerson_157 : decode cX10_readsPerson 157 = .ok (.getfield 224, 3) := by decide +kernel
theorem dX10_readsPerson_160 : decode cX10_readsPerson 160 = .ok (.iconst 1, 1) := by decide +kernel
theorem dX10_readsPerson_161 : decode cX10_readsPerson 161 = .ok (.iadd, 1) := by decide +kernel
theorem dX10_readsPerson_162 : decode cX10_readsPerson 162 = .ok (.putfield 224, 3) := by decide +kernel
theorem dX10_readsPerson_165 : decode cX10_readsPerson 165 = .ok (.return_, 1) := by decide +kernel
theorem dX10_readsThing_0 : decode cX10_readsThing 0 = .ok (.aload_n 0, 1) := by decide +kernel
theorem dX10_readsThing_1 : decode cX10_readsThing 1 = .ok (.getfield 237, 3) := by decide +kernel
theorem dX10_readsThing_4 : decode cX10_readsThing 4 = .ok (.istore_n 1, 1) := by decide +kernel
theorem dX10_readsThing_5 : decode cX10_readsThing 5 = .ok (.aload_n 0, 1) := by decide +kernel
theorem dX10_readsThing_6 : decode cX10_readsThing 6 = .ok (.getfield 48, 3) := by decide +kernel
theorem dX10_readsThing_9 : decode cX10_readsThing 9 = .ok (.iload_n 1, 1) := by decide +kernel
theorem dX10_readsThing_10 : decode cX10_readsThing 10 = .ok (.aload_n 0, 1) := by decide +kernel
theorem dX10_readsThing_11 : decode cX10_readsThing 11 = .ok (.iconst 1, 1) := by decide +kernel
theorem dX10_readsThing_12 : decode cX10_readsThing 12 = .ok (.bipush 30, 2) := by decide +kernel
theorem dX10_readsThing_14 : decode cX10_readsThing 14 = .ok (.invokevirtual 227, 3) := by decide +kernel
theorem dX10_readsThing_17 : decode cX10_readsThing 17 = .ok (.iastore, 1) := by decide +kernel
theorem dX10_readsThing_18 : decode cX10_readsThing 18 = .ok (.aload_n 0, 1) := by decide +kernel
theorem dX10_readsThing_19 : decode cX10_readsThing 19 = .ok (.getfield 51, 3) := by decide +kernel
theorem dX10_readsThing_22 : decode cX10_readsThing 22 = .ok (.bipush 31, 2) := by decide +kernel
theorem dX10_readsThing_24 : decode cX10_readsThing 24 = .ok (.iload_n 1, 1) := by decide +kernel
theorem dX10_readsThing_25 : decode cX10_readsThing 25 = .ok (.iadd, 1) := by decide +kernel
theorem dX10_readsThing_26 : decode cX10_readsThing 26 = .ok (.aload_n 0, 1) := by decide +kernel
theorem dX10_readsThing_27 : decode cX10_readsThing 27 = .ok (.iconst 0, 1) := by decide +kernel
theorem dX10_readsThing_28 : decode cX10_readsThing 28 = .ok (.bipush 9, 2) := by decide +kernel
theorem dX10_readsThing_30 : decode cX10_readsThing 30 = .ok (.invokevirtual 227, 3) := by decide +kernel
theorem dX10_readsThing_33 : decode cX10_readsThing 33 = .ok (.iastore, 1) := by decide +kernel
theorem dX10_readsThing_34 : decode cX10_readsThing 34 = .ok (.aload_n 0, 1) := by decide +kernel
theorem dX10_readsThing_35 : decode cX10_readsThing 35 = .ok (.getfield 51, 3) := by decide +kernel
theorem dX10_readsThing_38 : decode cX10_readsThing 38 = .ok (.bipush 11, 2) := by decide +kernel
theorem dX10_readsThing_40 : decode cX10_readsThing 40 = .ok (.iload_n 1, 1) := by decide +kernel
theorem dX10_readsThing_41 : decode cX10_readsThing 41 = .ok (.iadd, 1) := by decide +kernel
theorem dX10_readsThing_42 : decode cX10_readsThing 42 = .ok (.iconst (-1), 1) := by decide +kernel
theorem dX10_readsThing_43 : decode cX10_readsThing 43 = .ok (.iastore, 1) := by decide +kernel
theorem dX10_readsThing_44 : decode cX10_readsThing 44 = .ok (.aload_n 0, 1) := by decide +kernel
theorem dX10_readsThing_45 : decode cX10_readsThing 45 = .ok (.getfield 51, 3) := by decide +kernel
theorem dX10_readsThing_48 : decode cX10_readsThing 48 = .ok (.bipush 21, 2) := by decide +kernel
theorem dX10_readsThing_50 : decode cX10_readsThing 50 = .ok (.iload_n 1, 1) := by decide +kernel
theorem dX10_readsThing_51 : decode cX10_readsThing 51 = .ok (.iadd, 1) := by decide +kernel
theorem dX10_readsThing_52 : decode cX10_readsThing 52 = .ok (.iconst 0, 1) := by decide +kernel
theorem dX10_readsThing_53 : decode cX10_readsThing 53 = .ok (.iastore, 1) := by decide +kernel
theorem dX10_readsThing_54 : decode cX10_readsThing 54 = .ok (.aload_n 0, 1) := by decide +kernel
theorem dX10_readsThing_55 : decode cX10_readsThing 55 = .ok (.aload_n 0, 1) := by decide +kernel
theorem dX10_readsThing_56 : decode cX10_readsThing 56 = .ok (.getfield 224, 3) := by decide +kernel
theorem dX10_readsThing_59 : decode cX10_readsThing 59 = .ok (.invokevirtual 234, 3) := by decide +kernel
theorem dX10_readsThing_62 : decode cX10_readsThing 62 = .ok (.ifCond .ne 4, 3) := by decide +kernel
theorem dX10_readsThing_65 : decode cX10_readsThing 65 = .ok (.return_, 1) := by decide +kernel
theorem dX10_readsThing_66 : decode cX10_readsThing 66 = .ok (.aload_n 0, 1) := by decide +kernel
theorem dX10_readsThing_67 : decode cX10_readsThing 67 = .ok (.getfield 51, 3) := by decide +kernel
theorem dX10_readsThing_70 : decode cX10_readsThing 70 = .ok (.iconst 1, 1) := by decide +kernel
theorem dX10_readsThing_71 : decode cX10_readsThing 71 = .ok (.iload_n 1, 1) := by decide +kernel
theorem dX10_readsThing_72 : decode cX10_readsThing 72 = .ok (.iadd, 1) := by decide +kernel
theorem dX10_readsThing_73 : decode cX10_readsThing 73 = .ok (.aload_n 0, 1) := by decide +kernel
theorem dX10_readsThing_74 : decode cX10_readsThing 74 = .ok (.getfield 129, 3) := by decide +kernel
theorem dX10_readsThing_77 : decode cX10_readsThing 77 = .ok (.iastore, 1) := by decide +kernel
theorem dX10_readsThing_78 : decode cX10_readsThing 78 = .ok (.aload_n 0, 1) := by decide +kernel
theorem dX10_readsThing_79 : decode cX10_readsThing 79 = .ok (.invokevirtual 165, 3) := by decide +kernel
theorem dX10_readsThing_82 : decode cX10_readsThing 82 = .ok (.aload_n 0, 1) := by decide +kernel
theorem dX10_readsThing_83 : decode cX10_readsThing 83 = .ok (.invokevirtual 186, 3) := by decide +kernel
theorem dX10_readsThing_86 : decode cX10_readsThing 86 = .ok (.bipush 13, 2) := by decide +kernel
theorem dX10_readsThing_88 : decode cX10_readsThing 88 = .ok (.if_icmp .ne 64, 3) := by decide +kernel
theorem dX10_readsThing_91 : decode cX10_readsThing 91 = .ok (.aload_n 0, 1) := by decide +kernel
theorem dX10_readsThing_92 : decode cX10_readsThing 92 = .ok (.invokevirtual 165, 3) := by decide +kernel
theorem dX10_readsThing_95 : decode cX10_readsThing 95 = .ok (.aload_n 0, 1) := by decide +kernel
theorem dX10_readsThing_96 : decode cX10_readsThing 96 = .ok (.aload_n 0, 1) := by decide +kernel
theorem dX10_readsThing_97 : decode cX10_readsThing 97 = .ok (.getfield 224, 3) := by decide +kernel
theorem dX10_readsThing_100 : decode cX10_readsThing 100 = .ok (.invokevirtual 234, 3) := by decide +kernel
theorem dX10_readsThing_103 : decode cX10_readsThing 103 = .ok (.ifCond .ne 4, 3) := by decide +kernel
theorem dX10_readsThing_106 : decode cX10_readsThing 106 = .ok (.return_, 1) := by decide +kernel
theorem dX10_readsThing_107 : decode cX10_readsThing 107 = .ok (.aload_n 0, 1) := by decide +kernel
theorem dX10_readsThing_108 : decode cX10_readsThing 108 = .ok (.getfield 129, 3) := by decide +kernel
theorem dX10_readsThing_111 : decode cX10_readsThing 111 = .ok (.aload_n 0, 1) := by decide +kernel
theorem dX10_readsThing_112 : decode cX10_readsThing 112 = .ok (.getfield 51, 3) := by decide +kernel
theorem dX10_readsThing_115 : decode cX10_readsThing 115 = .ok (.iconst 1, 1) := by decide +kernel
theorem dX10_readsThing_116 : decode cX10_readsThing 116 = .ok (.iload_n 1, 1) := by decide +kernel
theorem dX10_readsThing_117 : decode cX10_readsThing 117 = .ok (.iadd, 1) := by decide +kernel
theorem dX10_readsThing_118 : decode cX10_readsThing 118 = .ok (.iaload, 1) := by decide +kernel
theorem dX10_readsThing_119 : decode cX10_readsThing 119 = .ok (.if_icmp .ne 8, 3) := by decide +kernel
theorem dX10_readsThing_122 : decode cX10_readsThing 122 = .ok (.aload_n 0, 1) := by decide +kernel
theorem dX10_readsThing_123 : decode cX10_readsThing 123 = .ok (.iconst 4, 1) := by decide +kernel
theorem dX10_readsThing_124 : decode cX10_readsThing 124 = .ok (.invokevirtual 168, 3) := by decide +kernel
theorem dX10_readsThing_127 : decode cX10_readsThing 127 = .ok (.aload_n 0, 1) := by decide +kernel
theorem dX10_readsThing_128 : decode cX10_readsThing 128 = .ok (.invokevirtual 161, 3) := by decide +kernel
theorem dX10_readsThing_131 : decode cX10_readsThing 131 = .ok (.ifCond .ne 4, 3) := by decide +kernel
theorem dX10_readsThing_134 : decode cX10_readsThing 134 = .ok (.return_, 1) := by decide +kernel
theorem dX10_readsThing_135 : decode cX10_readsThing 135 = .ok (.aload_n 0, 1) := by decide +kernel
theorem dX10_readsThing_136 : decode cX10_readsThing 136 = .ok (.getfield 51, 3) := by decide +kernel
theorem dX10_readsThing_139 : decode cX10_readsThing 139 = .ok (.bipush 11, 2) := by decide +kernel
theorem dX10_readsThing_141 : decode cX10_readsThing 141 = .ok (.iload_n 1, 1) := by decide +kernel
theorem dX10_readsThing_142 : decode cX10_readsThing 142 = .ok (.iadd, 1) := by decide +kernel
theorem dX10_readsThing_143 : decode cX10_readsThing 143 = .ok (.aload_n 0, 1) := by decide +kernel
theorem dX10_readsThing_144 : decode cX10_readsThing 144 = .ok (.getfield 129, 3) := by decide +kernel
theorem dX10_readsThing_147 : decode cX10_readsThing 147 = .ok (.iastore, 1) := by decide +kernel
theorem dX10_readsThing_148 : decode cX10_readsThing 148 = .ok (.aload_n 0, 1) := by decide +kernel
theorem dX10_readsThing_149 : decode cX10_readsThing 149 = .ok (.invokevirtual 165, 3) := by decide +kernel
theorem dX10_readsThing_152 : decode cX10_readsThing 152 = .ok (.aload_n 0, 1) := by decide +kernel
theorem dX10_readsThing_153 : decode cX10_readsThing 153 = .ok (.invokevirtual 161, 3) := by decide +kernel
theorem dX10_readsThing_156 : decode cX10_readsThing 156 = .ok (.ifCond .eq 13, 3) := by decide +kernel
theorem dX10_readsThing_159 : decode cX10_readsThing 159 = .ok (.aload_n 0, 1) := by decide +kernel
theorem dX10_readsThing_160 : decode cX10_readsThing 160 = .ok (.dup, 1) := by decide +kernel
theorem dX10_readsThing_161 : decode cX10_readsThing 161 = .ok (.getfield 237, 3) := by decide +kernel
theorem dX10_readsThing_164 : decode cX10_readsThing 164 = .ok (.iconst 1, 1) := by decide +kernel
theorem dX10_readsThing_165 : decode cX10_readsThing 165 = .ok (.iadd, 1) := by decide +kernel
theorem dX10_readsThing_166 : decode cX10_readsThing 166 = .ok (.putfield 237, 3) := by decide +kernel
theorem dX10_readsThing_169 : decode cX10_readsThing 169 = .ok (.return_, 1) := by decide +kernel
theorem dX10_line_0 : decode cX10_line 0 = .ok (.aload_n 0, 1) := by decide +kernel
theorem dX10_line_1 : decode cX10_line 1 = .ok (.invokevirtual 186, 3) := by decide +kernel
theorem dX10_line_4 : decode cX10_line 4 = .ok (.istore_n 1, 1) := by decide +kernel
theorem dX10_line_5 : decode cX10_line 5 = .ok (.iload_n 1, 1) := by decide +kernel
theorem dX10_line_6 : decode cX10_line 6 = .ok (.bipush 9, 2) := by decide +kernel
theorem dX10_line_8 : decode cX10_line 8 = .ok (.if_icmp .ne 50, 3) := by decide +kernel
theorem dX10_line_11 : decode cX10_line 11 = .ok (.aload_n 0, 1) := by decide +kernel
theorem dX10_line_12 : decode cX10_line 12 = .ok (.iconst 0, 1) := by decide +kernel
theorem dX10_line_13 : decode cX10_line 13 = .ok (.aload_n 0, 1) := by decide +kernel
theorem dX10_line_14 : decode cX10_line 14 = .ok (.getfield 224, 3) := by decide +kernel
theorem dX10_line_17 : decode cX10_line 17 = .ok (.ifCond .le 7, 3) := by decide +kernel
theorem dX10_line_20 : decode cX10_line 20 = .ok (.iconst 1, 1) := by decide +kernel
theorem dX10_line_21 : decode cX10_line 21 = .ok (.goto 4, 3) := by decide +kernel
theorem dX10_line_24 : decode cX10_line 24 = .ok (.iconst 0, 1) := by decide +kernel
theorem dX10_line_25 : decode cX10_line 25 = .ok (.aload_n 0, 1) := by decide +kernel
theorem dX10_line_26 : decode cX10_line 26 = .ok (.getfield 231, 3) := by decide +kernel
theorem dX10_line_29 : decode cX10_line 29 = .ok (.iconst (-1), 1) := by decide +kernel
theorem dX10_line_30 : decode cX10_line 30 = .ok (.if_icmp .eq 7, 3) := by decide +kernel
theorem dX10_line_33 : decode cX10_line 33 = .ok (.iconst 1, 1) := by decide +kernel
theorem dX10_line_34 : decode cX10_line 34 = .ok (.goto 4, 3) := by decide +kernel
theorem dX10_line_37 : decode cX10_line 37 = .ok (.iconst 0, 1) := by decide +kernel
theorem dX10_line_38 : decode cX10_line 38 = .ok (.invokevirtual 240, 3) := by decide +kernel
theorem dX10_line_41 : decode cX10_line 41 = .ok (.ifCond .eq 245, 3) := by decide +kernel
theorem dX10_line_44 : decode cX10_line 44 = .ok (.aload_n 0, 1) := by decide +kernel
theorem dX10_line_45 : decode cX10_line 45 = .ok (.aload_n 0, 1) := by decide +kernel
theorem dX10_line_46 : decode cX10_line 46 = .ok (.iconst 2, 1) := by decide +kernel
theorem dX10_line_47 : decode cX10_line 47 = .ok (.bipush 6, 2) := by decide +kernel
theorem dX10_line_49 : decode cX10_line 49 = .ok (.invokevirtual 227, 3) := by decide +kernel
theorem dX10_line_52 : decode cX10_line 52 = .ok (.putfield 231, 3) := by decide +kernel
theorem dX10_line_55 : decode cX10_line 55 = .ok (.goto 231, 3) := by decide +kernel
theorem dX10_line_58 : decode cX10_line 58 = .ok (.iload_n 1, 1) := by decide +kernel
theorem dX10_line_59 : decode cX10_line 59 = .ok (.bipush 10, 2) := by decide +kernel
theorem dX10_line_61 : decode cX10_line 61 = .ok (.if_icmp .eq 9, 3) := by decide +kernel
theorem dX10_line_64 : decode cX10_line 64 = .ok (.iload_n 1, 1) := by decide +kernel
theorem dX10_line_65 : decode cX10_line 65 = .ok (.bipush 11, 2) := by decide +kernel
theorem dX10_line_67 : decode cX10_line 67 = .ok (.if_icmp .ne 44, 3) := by decide +kernel
theorem dX10_line_70 : decode cX10_line 70 = .ok (.aload_n 0, 1) := by decide +kernel
theorem dX10_line_71 : decode cX10_line 71 = .ok (.aload_n 0, 1) := by decide +kernel
theorem dX10_line_72 : decode cX10_line 72 = .ok (.getfield 224, 3) := by decide +kernel
theorem dX10_line_75 : decode cX10_line 75 = .ok (.bipush 8, 2) := by decide +kernel
theorem dX10_line_77 : decode cX10_line 77 = .ok (.if_icmp .ne 7, 3) := by decide +kernel
theorem dX10_line_80 : decode cX10_line 80 = .ok (.iconst 1, 1) := by decide +kernel
theorem dX10_line_81 : decode cX10_line 81 = .ok (.goto 4, 3) := by decide +kernel
theorem dX10_line_84 : decode cX10_line 84 = .ok (.iconst 0, 1) := by decide +kernel
theorem dX10_line_85 : decode cX10_line 85 = .ok (.iconst 0, 1) := by decide +kernel
theorem dX10_line_86 : decode cX10_line 86 = .ok (.iconst 0, 1) := by decide +kernel
theorem dX10_line_87 : decode cX10_line 87 = .ok (.invokevirtual 240, 3) := by decide +kernel
theorem dX10_line_90 : decode cX10_line 90 = .ok (.ifCond .eq 196, 3) := by decide +kernel
theorem dX10_line_93 : decode cX10_line 93 = .ok (.aload_n 0, 1) := by decide +kernel
theorem dX10_line_94 : decode cX10_line 94 = .ok (.iload_n 1, 1) := by decide +kernel
theorem dX10_line_95 : decode cX10_line 95 = .ok (.bipush 11, 2) := by decide +kernel
theorem dX10_line_97 : decode cX10_line 97 = .ok (.if_icmp .ne 7, 3) := by decide +kernel
theorem dX10_line_100 : decode cX10_line 100 = .ok (.iconst 1, 1) := by decide +kernel
theorem dX10_line_101 : decode cX10_line 101 = .ok (.goto 4, 3) := by decide +kernel
theorem dX10_line_104 : decode cX10_line 104 = .ok (.iconst 0, 1) := by decide +kernel
theorem dX10_line_105 : decode cX10_line 105 = .ok (.invokevirtual 244, 3) := by decide +kernel
theorem dX10_line_108 : decode cX10_line 108 = .ok (.goto 178, 3) := by decide +kernel
theorem dX10_line_111 : decode cX10_line 111 = .ok (.iload_n 1, 1) := by decide +kernel
theorem dX10_line_112 : decode cX10_line 112 = .ok (.bipush 12, 2) := by decide +kernel
theorem dX10_line_114 : decode cX10_line 114 = .ok (.if_icmp .ne 33, 3) := by decide +kernel
theorem dX10_line_117 : decode cX10_line 117 = .ok (.aload_n 0, 1) := by decide +kernel
theorem dX10_line_118 : decode cX10_line 118 = .ok (.aload_n 0, 1) := by decide +kernel
theorem dX10_line_119 : decode cX10_line 119 = .ok (.getfield 237, 3) := by decide +kernel
theorem dX10_line_122 : decode cX10_line 122 = .ok (.bipush 10, 2) := by decide +kernel
theorem dX10_line_124 : decode cX10_line 124 = .ok (.if_icmp .ne 7, 3) := by decide +kernel
theorem dX10_line_127 : decode cX10_line 127 = .ok (.iconst 1, 1) := by decide +kernel
theorem dX10_line_128 : decode cX10_line 128 = .ok (.goto 4, 3) := by decide +kernel
theorem dX10_line_131 : decode cX10_line 131 = .ok (.iconst 0, 1) := by decide +kernel
theorem dX10_line_132 : decode cX10_line 132 = .ok (.iconst 0, 1) := by decide +kernel
theorem dX10_line_133 : decode cX10_line 133 = .ok (.iconst 0, 1) := by decide +kernel
theorem dX10_line_134 : decode cX10_line 134 = .ok (.invokevirtual 240, 3) := by decide +kernel
theorem dX10_line_137 : decode cX10_line 137 = .ok (.ifCond .eq 149, 3) := by decide +kernel
theorem dX10_line_140 : decode cX10_line 140 = .ok (.aload_n 0, 1) := by decide +kernel
theorem dX10_line_141 : decode cX10_line 141 = .ok (.invokevirtual 247, 3) := by decide +kernel
theorem dX10_line_144 : decode cX10_line 144 = .ok (.goto 142, 3) := by decide +kernel
theorem dX10_line_147 : decode cX10_line 147 = .ok (.iload_n 1, 1) := by decide +kernel
theorem dX10_line_148 : decode cX10_line 148 = .ok (.bipush 14, 2) := by decide +kernel
theorem dX10_line_150 : decode cX10_line 150 = .ok (.if_icmp .ne 39, 3) := by decide +kernel
theorem dX10_line_153 : decode cX10_line 153 = .ok (.aload_n 0, 1) := by decide +kernel
theorem dX10_line_154 : decode cX10_line 154 = .ok (.iconst 0, 1) := by decide +kernel
theorem dX10_line_155 : decode cX10_line 155 = .ok (.iconst 0, 1) := by decide +kernel
theorem dX10_line_156 : decode cX10_line 156 = .ok (.aload_n 0, 1) := by decide +kernel
theorem dX10_line_157 : decode cX10_line 157 = .ok (.getfield 250, 3) := by decide +kernel
theorem dX10_line_160 : decode cX10_line 160 = .ok (.iconst (-1), 1) := by decide +kernel
theorem dX10_line_161 : decode cX10_line 161 = .ok (.if_icmp .eq 7, 3) := by decide +kernel
theorem dX10_line_164 : decode cX10_line 164 = .ok (.iconst 1, 1) := by decide +kernel
theorem dX10_line_165 : decode cX10_line 165 = .ok (.goto 4, 3) := by decide +kernel
theorem dX10_line_168 : decode cX10_line 168 = .ok (.iconst 0, 1) := by decide +kernel
theorem dX10_line_169 : decode cX10_line 169 = .ok (.invokevirtual 240, 3) := by decide +kernel
theorem dX10_line_172 : decode cX10_line 172 = .ok (.ifCond .eq 114, 3) := by decide +kernel
theorem dX10_line_175 : decode cX10_line 175 = .ok (.aload_n 0, 1) := by decide +kernel
theorem dX10_line_176 : decode cX10_line 176 = .ok (.aload_n 0, 1) := by decide +kernel
theorem dX10_line_177 : decode cX10_line 177 = .ok (.iconst 1, 1) := by decide +kernel
theorem dX10_line_178 : decode cX10_line 178 = .ok (.bipush 99, 2) := by decide +kernel
theorem dX10_line_180 : decode cX10_line 180 = .ok (.invokevirtual 227, 3) := by decide +kernel
theorem dX10_line_183 : decode cX10_line 183 = .ok (.putfield 250, 3) := by decide +kernel
theorem dX10_line_186 : decode cX10_line 186 = .ok (.goto 100, 3) := by decide +kernel
theorem dX10_line_189 : decode cX10_line 189 = .ok (.iload_n 1, 1) := by decide +kernel
theorem dX10_line_190 : decode cX10_line 190 = .ok (.bipush 15, 2) := by decide +kernel
theorem dX10_line_192 : decode cX10_line 192 = .ok (.if_icmp .ne 43, 3) := by decide +kernel
theorem dX10_line_195 : decode cX10_line 195 = .ok (.aload_n 0, 1) := by decide +kernel
theorem dX10_line_196 : decode cX10_line 196 = .ok (.iconst 0, 1) := by decide +kernel
theorem dX10_line_197 : decode cX10_line 197 = .ok (.iconst 0, 1) := by decide +kernel
theorem dX10_line_198 : decode cX10_line 198 = .ok (.aload_n 0, 1) := by decide +kernel
theorem dX10_line_199 : decode cX10_line 199 = .ok (.getfield 253, 3) := by decide +kernel
theorem dX10_line_202 : decode cX10_line 202 = .ok (.iconst (-1), 1) := by decide +kernel
theorem dX10_line_203 : decode cX10_line 203 = .ok (.if_icmp .eq 7, 3) := by decide +kernel
theorem dX10_line_206 : decode cX10_line 206 = .ok (.iconst 1, 1) := by decide +kernel
theorem dX10_line_207 : decode cX10_line 207 = .ok (.goto 4, 3) := by decide +kernel
theorem dX10_line_210 : decode cX10_line 210 = .ok (.iconst 0, 1) := by decide +kernel
theorem dX10_line_211 : decode cX10_line 211 = .ok (.invokevirtual 240, 3) := by decide +kernel
theorem dX10_line_214 : decode cX10_line 214 = .ok (.ifCond .eq 72, 3) := by decide +kernel
theorem dX10_line_217 : decode cX10_line 217 = .ok (.aload_n 0, 1) := by decide +kernel
theorem dX10_line_218 : decode cX10_line 218 = .ok (.aload_n 0, 1) := by decide +kernel
theorem dX10_line_219 : decode cX10_line 219 = .ok (.getfield 171, 3) := by decide +kernel
theorem dX10_line_222 : decode cX10_line 222 = .ok (.putfield 253, 3) := by decide +kernel
theorem dX10_line_225 : decode cX10_line 225 = .ok (.aload_n 0, 1) := by decide +kernel
theorem dX10_line_226 : decode cX10_line 226 = .ok (.iconst 0, 1) := by decide +kernel
theorem dX10_line_227 : decode cX10_line 227 = .ok (.bipush 6, 2) := by decide +kernel
theorem dX10_line_229 : decode cX10_line 229 = .ok (.invokevirtual 256, 3) := by decide +kernel
theorem dX10_line_232 : decode cX10_line 232 = .ok (.goto 54, 3) := by decide +kernel
theorem dX10_line_235 : decode cX10_line 235 = .ok (.iload_n 1, 1) := by decide +kernel
theorem dX10_line_236 : decode cX10_line 236 = .ok (.bipush 16, 2) := by decide +kernel
theorem dX10_line_238 : decode cX10_line 238 = .ok (.if_icmp .ne 43, 3) := by decide +kernel
theorem dX10_line_241 : decode cX10_line 241 = .ok (.aload_n 0, 1) := by decide +kernel
theorem dX10_line_242 : decode cX10_line 242 = .ok (.iconst 0, 1) := by decide +kernel
theorem dX10_line_243 : decode cX10_line 243 = .ok (.iconst 0, 1) := by decide +kernel
theorem dX10_line_244 : decode cX10_line 244 = .ok (.aload_n 0, 1) := by decide +kernel
theorem dX10_line_245 : decode cX10_line 245 = .ok (.getfield 260, 3) := by decide +kernel
theorem dX10_line_248 : decode cX10_line 248 = .ok (.iconst (-1), 1) := by decide +kernel
theorem dX10_line_249 : decode cX10_line 249 = .ok (.if_icmp .eq 7, 3) := by decide +kernel
theorem dX10_line_252 : decode cX10_line 252 = .ok (.iconst 1, 1) := by decide +kernel
theorem dX10_line_253 : decode cX10_line 253 = .ok (.goto 4, 3) := by decide +kernel
theorem dX10_line_256 : decode cX10_line 256 = .ok (.iconst 0, 1) := by decide +kernel
theorem dX10_line_257 : decode cX10_line 257 = .ok (.invokevirtual 240, 3) := by decide +kernel
theorem dX10_line_260 : decode cX10_line 260 = .ok (.ifCond .eq 26, 3) := by decide +kernel
theorem dX10_line_263 : decode cX10_line 263 = .ok (.aload_n 0, 1) := by decide +kernel
theorem dX10_line_264 : decode cX10_line 264 = .ok (.aload_n 0, 1) := by decide +kernel
theorem dX10_line_265 : decode cX10_line 265 = .ok (.getfield 171, 3) := by decide +kernel
theorem dX10_line_268 : decode cX10_line 268 = .ok (.putfield 260, 3) := by decide +kernel
theorem dX10_line_271 : decode cX10_line 271 = .ok (.aload_n 0, 1) := by decide +kernel
theorem dX10_line_272 : decode cX10_line 272 = .ok (.iconst 5, 1) := by decide +kernel
theorem dX10_line_273 : decode cX10_line 273 = .ok (.bipush 8, 2) := by decide +kernel
theorem dX10_line_275 : decode cX10_line 275 = .ok (.invokevirtual 256, 3) := by decide +kernel
theorem dX10_line_278 : decode cX10_line 278 = .ok (.goto 8, 3) := by decide +kernel
theorem dX10_line_281 : decode cX10_line 281 = .ok (.aload_n 0, 1) := by decide +kernel
theorem dX10_line_282 : decode cX10_line 282 = .ok (.iconst 1, 1) := by decide +kernel
theorem dX10_line_283 : decode cX10_line 283 = .ok (.invokevirtual 168, 3) := by decide +kernel
theorem dX10_line_286 : decode cX10_line 286 = .ok (.aload_n 0, 1) := by decide +kernel
theorem dX10_line_287 : decode cX10_line 287 = .ok (.aload_n 0, 1) := by decide +kernel
theorem dX10_line_288 : decode cX10_line 288 = .ok (.bipush 59, 2) := by decide +kernel
theorem dX10_line_290 : decode cX10_line 290 = .ok (.invokevirtual 199, 3) := by decide +kernel
theorem dX10_line_293 : decode cX10_line 293 = .ok (.invokevirtual 263, 3) := by decide +kernel
theorem dX10_line_296 : decode cX10_line 296 = .ok (.return_, 1) := by decide +kernel
theorem dX10_city_0 : decode cX10_city 0 = .ok (.aload_n 0, 1) := by decide +kernel
theorem dX10_city_1 : decode cX10_city 1 = .ok (.iconst 0, 1) := by decide +kernel
theorem dX10_city_2 : decode cX10_city 2 = .ok (.putfield 102, 3) := by decide +kernel
theorem dX10_city_5 : decode cX10_city 5 = .ok (.aload_n 0, 1) := by decide +kernel
theorem dX10_city_6 : decode cX10_city 6 = .ok (.iload_n 1, 1) := by decide +kernel
theorem dX10_city_7 : decode cX10_city 7 = .ok (.ifCond .lt 15, 3) := by decide +kernel
theorem dX10_city_10 : decode cX10_city 10 = .ok (.iload_n 1, 1) := by decide +kernel
theorem dX10_city_11 : decode cX10_city 11 = .ok (.aload_n 0, 1) := by decide +kernel
theorem dX10_city_12 : decode cX10_city 12 = .ok (.getfield 105, 3) := by decide +kernel
theorem dX10_city_15 : decode cX10_city 15 = .ok (.if_icmp .gt 7, 3) := by decide +kernel
theorem dX10_city_18 : decode cX10_city 18 = .ok (.iconst 1, 1) := by decide +kernel
theorem dX10_city_19 : decode cX10_city 19 = .ok (.goto 4, 3) := by decide +kernel
theorem dX10_city_22 : decode cX10_city 22 = .ok (.iconst 0, 1) := by decide +kernel
theorem dX10_city_23 : decode cX10_city 23 = .ok (.iconst 1, 1) := by decide +kernel
theorem dX10_city_24 : decode cX10_city 24 = .ok (.invokevirtual 266, 3) := by decide +kernel
theorem dX10_city_27 : decode cX10_city 27 = .ok (.ifCond .ne 5, 3) := by decide +kernel
theorem dX10_city_30 : decode cX10_city 30 = .ok (.iconst 0, 1) := by decide +kernel
theorem dX10_city_31 : decode cX10_city 31 = .ok (.ireturn, 1) := by decide +kernel
theorem dX10_city_32 : decode cX10_city 32 = .ok (.aload_n 0, 1) := by decide +kernel
theorem dX10_city_33 : decode cX10_city 33 = .ok (.iconst 0, 1) := by decide +kernel
theorem dX10_city_34 : decode cX10_city 34 = .ok (.putfield 105, 3) := by decide +kernel
theorem dX10_city_37 : decode cX10_city 37 = .ok (.aload_n 0, 1) := by decide +kernel
theorem dX10_city_38 : decode cX10_city 38 = .ok (.iconst (-1), 1) := by decide +kernel
theorem dX10_city_39 : decode cX10_city 39 = .ok (.putfield 39, 3) := by decide +kernel
theorem dX10_city_42 : decode cX10_city 42 = .ok (.aload_n 0, 1) := by decide +kernel
theorem dX10_city_43 : decode cX10_city 43 = .ok (.iconst 0, 1) := by decide +kernel
theorem dX10_city_44 : decode cX10_city 44 = .ok (.putfield 158, 3) := by decide +kernel
theorem dX10_city_47 : decode cX10_city 47 = .ok (.aload_n 0, 1) := by decide +kernel
theorem dX10_city_48 : decode cX10_city 48 = .ok (.iload_n 1, 1) := by decide +kernel
theorem dX10_city_49 : decode cX10_city 49 = .ok (.putfield 112, 3) := by decide +kernel
theorem dX10_city_52 : decode cX10_city 52 = .ok (.aload_n 0, 1) := by decide +kernel
theorem dX10_city_53 : decode cX10_city 53 = .ok (.iconst 0, 1) := by decide +kernel
theorem dX10_city_54 : decode cX10_city 54 = .ok (.putfield 115, 3) := by decide +kernel
theorem dX10_city_57 : decode cX10_city 57 = .ok (.aload_n 0, 1) := by decide +kernel
theorem dX10_city_58 : decode cX10_city 58 = .ok (.iconst (-1), 1) := by decide +kernel
theorem dX10_city_59 : decode cX10_city 59 = .ok (.putfield 231, 3) := by decide +kernel
theorem dX10_city_62 : decode cX10_city 62 = .ok (.aload_n 0, 1) := by decide +kernel
theorem dX10_city_63 : decode cX10_city 63 = .ok (.iconst 0, 1) := by decide +kernel
theorem dX10_city_64 : decode cX10_city 64 = .ok (.putfield 224, 3) := by decide +kernel
theorem dX10_city_67 : decode cX10_city 67 = .ok (.aload_n 0, 1) := by decide +kernel
theorem dX10_city_68 : decode cX10_city 68 = .ok (.iconst 0, 1) := by decide +kernel
theorem dX10_city_69 : decode cX10_city 69 = .ok (.putfield 237, 3) := by decide +kernel
theorem dX10_city_72 : decode cX10_city 72 = .ok (.aload_n 0, 1) := by decide +kernel
theorem dX10_city_73 : decode cX10_city 73 = .ok (.iconst (-1), 1) := by decide +kernel
theorem dX10_city_74 : decode cX10_city 74 = .ok (.putfield 250, 3) := by decide +kernel
theorem dX10_city_77 : decode cX10_city 77 = .ok (.aload_n 0, 1) := by decide +kernel
theorem dX10_city_78 : decode cX10_city 78 = .ok (.iconst (-1), 1) := by decide +kernel
theorem dX10_city_79 : decode cX10_city 79 = .ok (.putfield 253, 3) := by decide +kernel
theorem dX10_city_82 : decode cX10_city 82 = .ok (.aload_n 0, 1) := by decide +kernel
theorem dX10_city_83 : decode cX10_city 83 = .ok (.iconst (-1), 1) := by decide +kernel
theorem dX10_city_84 : decode cX10_city 84 = .ok (.putfield 260, 3) := by decide +kernel
theorem dX10_city_87 : decode cX10_city 87 = .ok (.iconst 0, 1) := by decide +kernel
theorem dX10_city_88 : decode cX10_city 88 = .ok (.istore_n 2, 1) := by decide +kernel
theorem dX10_city_89 : decode cX10_city 89 = .ok (.iload_n 2, 1) := by decide +kernel
theorem dX10_city_90 : decode cX10_city 90 = .ok (.bipush 105, 2) := by decide +kernel
theorem dX10_city_92 : decode cX10_city 92 = .ok (.if_icmp .ge 16, 3) := by decide +kernel
theorem dX10_city_95 : decode cX10_city 95 = .ok (.aload_n 0, 1) := by decide +kernel
theorem dX10_city_96 : decode cX10_city 96 = .ok (.getfield 51, 3) := by decide +kernel
theorem dX10_city_99 : decode cX10_city 99 = .ok (.iload_n 2, 1) := by decide +kernel
theorem dX10_city_100 : decode cX10_city 100 = .ok (.iconst 0, 1) := by decide +kernel
theorem dX10_city_101 : decode cX10_city 101 = .ok (.iastore, 1) := by decide +kernel
theorem dX10_city_102 : decode cX10_city 102 = .ok (.iinc 2 1, 3) := by decide +kernel
theorem dX10_city_105 : decode cX10_city 105 = .ok (.goto (-16), 3) := by decide +kernel
theorem dX10_city_108 : decode cX10_city 108 = .ok (.aload_n 0, 1) := by decide +kernel
theorem dX10_city_109 : decode cX10_city 109 = .ok (.iconst 0, 1) := by decide +kernel
theorem dX10_city_110 : decode cX10_city 110 = .ok (.putfield 171, 3) := by decide +kernel
theorem dX10_city_113 : decode cX10_city 113 = .ok (.aload_n 0, 1) := by decide +kernel
theorem dX10_city_114 : decode cX10_city 114 = .ok (.invokevirtual 165, 3) := by decide +kernel
theorem dX10_city_117 : decode cX10_city 117 = .ok (.aload_n 0, 1) := by decide +kernel
theorem dX10_city_118 : decode cX10_city 118 = .ok (.invokevirtual 161, 3) := by decide +kernel
theorem dX10_city_121 : decode cX10_city 121 = .ok (.ifCond .eq 17, 3) := by decide +kernel
theorem dX10_city_124 : decode cX10_city 124 = .ok (.aload_n 0, 1) := by decide +kernel
theorem dX10_city_125 : decode cX10_city 125 = .ok (.getfield 135, 3) := by decide +kernel
theorem dX10_city_128 : decode cX10_city 128 = .ok (.ifCond .eq 10, 3) := by decide +kernel
theorem dX10_city_131 : decode cX10_city 131 = .ok (.aload_n 0, 1) := by decide +kernel
theorem dX10_city_132 : decode cX10_city 132 = .ok (.invokevirtual 270, 3) := by decide +kernel
theorem dX10_city_135 : decode cX10_city 135 = .ok (.goto (-18), 3) := by decide +kernel
theorem dX10_city_138 : decode cX10_city 138 = .ok (.aload_n 0, 1) := by decide +kernel
theorem dX10_city_139 : decode cX10_city 139 = .ok (.invokevirtual 161, 3) := by decide +kernel
theorem dX10_city_142 : decode cX10_city 142 = .ok (.ifCond .ne 18, 3) := by decide +kernel
theorem dX10_city_145 : decode cX10_city 145 = .ok (.aload_n 0, 1) := by decide +kernel
theorem dX10_city_146 : decode cX10_city 146 = .ok (.getfield 42, 3) := by decide +kernel
theorem dX10_city_149 : decode cX10_city 149 = .ok (.iconst 0, 1) := by decide +kernel
theorem dX10_city_150 : decode cX10_city 150 = .ok (.dup2, 1) := by decide +kernel
theorem dX10_city_151 : decode cX10_city 151 = .ok (.iaload, 1) := by decide +kernel
theorem dX10_city_152 : decode cX10_city 152 = .ok (.iconst 1, 1) := by decide +kernel
theorem dX10_city_153 : decode cX10_city 153 = .ok (.iadd, 1) := by decide +kernel
theorem dX10_city_154 : decode cX10_city 154 = .ok (.iastore, 1) := by decide +kernel
theorem dX10_city_155 : decode cX10_city 155 = .ok (.aload_n 0, 1) := by decide +kernel
theorem dX10_city_156 : decode cX10_city 156 = .ok (.getfield 158, 3) := by decide +kernel
theorem dX10_city_159 : decode cX10_city 159 = .ok (.ireturn, 1) := by decide +kernel
theorem dX10_city_160 : decode cX10_city 160 = .ok (.aload_n 0, 1) := by decide +kernel
theorem dX10_city_161 : decode cX10_city 161 = .ok (.aload_n 0, 1) := by decide +kernel
theorem dX10_city_162 : decode cX10_city 162 = .ok (.getfield 231, 3) := by decide +kernel
theorem dX10_city_165 : decode cX10_city 165 = .ok (.iconst (-1), 1) := by decide +kernel
theorem dX10_city_166 : decode cX10_city 166 = .ok (.if_icmp .ne 7, 3) := by decide +kernel
theorem dX10_city_169 : decode cX10_city 169 = .ok (.iconst 3, 1) := by decide +kernel
theorem dX10_city_170 : decode cX10_city 170 = .ok (.goto 7, 3) := by decide +kernel
theorem dX10_city_173 : decode cX10_city 173 = .ok (.aload_n 0, 1) := by decide +kernel
theorem dX10_city_174 : decode cX10_city 174 = .ok (.getfield 231, 3) := by decide +kernel
theorem dX10_city_177 : decode cX10_city 177 = .ok (.putfield 7, 3) := by decide +kernel
theorem dX10_city_180 : decode cX10_city 180 = .ok (.aload_n 0, 1) := by decide +kernel
theorem dX10_city_181 : decode cX10_city 181 = .ok (.aload_n 0, 1) := by decide +kernel
theorem dX10_city_182 : decode cX10_city 182 = .ok (.getfield 224, 3) := by decide +kernel
theorem dX10_city_185 : decode cX10_city 185 = .ok (.putfield 273, 3) := by decide +kernel
theorem dX10_city_188 : decode cX10_city 188 = .ok (.aload_n 0, 1) := by decide +kernel
theorem dX10_city_189 : decode cX10_city 189 = .ok (.aload_n 0, 1) := by decide +kernel
theorem dX10_city_190 : decode cX10_city 190 = .ok (.getfield 237, 3) := by decide +kernel
theorem dX10_city_193 : decode cX10_city 193 = .ok (.putfield 276, 3) := by decide +kernel
theorem dX10_city_196 : decode cX10_city 196 = .ok (.aload_n 0, 1) := by decide +kernel
theorem dX10_city_197 : decode cX10_city 197 = .ok (.aload_n 0, 1) := by decide +kernel
theorem dX10_city_198 : decode cX10_city 198 = .ok (.getfield 250, 3) := by decide +kernel
theorem dX10_city_201 : decode cX10_city 201 = .ok (.iconst (-1), 1) := by decide +kernel
theorem dX10_city_202 : decode cX10_city 202 = .ok (.if_icmp .ne 8, 3) := by decide +kernel
theorem dX10_city_205 : decode cX10_city 205 = .ok (.bipush 10, 2) := by decide +kernel
theorem dX10_city_207 : decode cX10_city 207 = .ok (.goto 7, 3) := by decide +kernel
theorem dX10_city_210 : decode cX10_city 210 = .ok (.aload_n 0, 1) := by decide +kernel
theorem dX10_city_211 : decode cX10_city 211 = .ok (.getfield 250, 3) := by decide +kernel
theorem dX10_city_214 : decode cX10_city 214 = .ok (.putfield 13, 3) := by decide +kernel
theorem dX10_city_217 : decode cX10_city 217 = .ok (.aload_n 0, 1) := by decide +kernel
theorem dX10_city_218 : decode cX10_city 218 = .ok (.aload_n 0, 1) := by decide +kernel
theorem dX10_city_219 : decode cX10_city 219 = .ok (.getfield 253, 3) := by decide +kernel
theorem dX10_city_222 : decode cX10_city 222 = .ok (.putfield 16, 3) := by decide +kernel
theorem dX10_city_225 : decode cX10_city 225 = .ok (.aload_n 0, 1) := by decide +kernel
theorem dX10_city_226 : decode cX10_city 226 = .ok (.aload_n 0, 1) := by decide +kernel
theorem dX10_city_227 : decode cX10_city 227 = .ok (.getfield 260, 3) := by decide +kernel
theorem dX10_city_230 : decode cX10_city 230 = .ok (.putfield 19, 3) := by decide +kernel
theorem dX10_city_233 : decode cX10_city 233 = .ok (.aload_n 0, 1) := by decide +kernel
theorem dX10_city_234 : decode cX10_city 234 = .ok (.aload_n 0, 1) := by decide +kernel
theorem dX10_city_235 : decode cX10_city 235 = .ok (.getfield 45, 3) := by decide +kernel
theorem dX10_city_238 : decode cX10_city 238 = .ok (.aload_n 0, 1) := by decide +kernel
theorem dX10_city_239 : decode cX10_city 239 = .ok (.getfield 22, 3) := by decide +kernel
theorem dX10_city_242 : decode cX10_city 242 = .ok (.invokevirtual 279, 3) := by decide +kernel
theorem dX10_city_245 : decode cX10_city 245 = .ok (.aload_n 0, 1) := by decide +kernel
theorem dX10_city_246 : decode cX10_city 246 = .ok (.aload_n 0, 1) := by decide +kernel
theorem dX10_city_247 : decode cX10_city 247 = .ok (.getfield 48, 3) := by decide +kernel
theorem dX10_city_250 : decode cX10_city 250 = .ok (.aload_n 0, 1) := by decide +kernel
theorem dX10_city_251 : decode cX10_city 251 = .ok (.getfield 26, 3) := by decide +kernel
theorem dX10_city_254 : decode cX10_city 254 = .ok (.invokevirtual 279, 3) := by decide +kernel
theorem dX10_city_257 : decode cX10_city 257 = .ok (.iconst 0, 1) := by decide +kernel
theorem dX10_city_258 : decode cX10_city 258 = .ok (.istore_n 2, 1) := by decide +kernel
theorem dX10_city_259 : decode cX10_city 259 = .ok (.iload_n 2, 1) := by decide +kernel
theorem dX10_city_260 : decode cX10_city 260 = .ok (.bipush 8, 2) := by decide +kernel
theorem dX10_city_262 : decode cX10_city 262 = .ok (.if_icmp .ge 21, 3) := by decide +kernel
theorem dX10_city_265 : decode cX10_city 265 = .ok (.aload_n 0, 1) := by decide +kernel
theorem dX10_city_266 : decode cX10_city 266 = .ok (.getfield 32, 3) := by decide +kernel
theorem dX10_city_269 : decode cX10_city 269 = .ok (.iload_n 2, 1) := by decide +kernel
theorem dX10_city_270 : decode cX10_city 270 = .ok (.aload_n 0, 1) := by decide +kernel
theorem dX10_city_271 : decode cX10_city 271 = .ok (.getfield 60, 3) := by decide +kernel
theorem dX10_city_274 : decode cX10_city 274 = .ok (.iload_n 2, 1) := by decide +kernel
theorem dX10_city_275 : decode cX10_city 275 = .ok (.baload, 1) := by decide +kernel
theorem dX10_city_276 : decode cX10_city 276 = .ok (.bastore, 1) := by decide +kernel
theorem dX10_city_277 : decode cX10_city 277 = .ok (.iinc 2 1, 3) := by decide +kernel
theorem dX10_city_280 : decode cX10_city 280 = .ok (.goto (-21), 3) := by decide +kernel
theorem dX10_city_283 : decode cX10_city 283 = .ok (.aload_n 0, 1) := by decide +kernel
theorem dX10_city_284 : decode cX10_city 284 = .ok (.aload_n 0, 1) := by decide +kernel
theorem dX10_city_285 : decode cX10_city 285 = .ok (.getfield 54, 3) := by decide +kernel
theorem dX10_city_288 : decode cX10_city 288 = .ok (.aload_n 0, 1) := by decide +kernel
theorem dX10_city_289 : decode cX10_city 289 = .ok (.getfield 29, 3) := by decide +kernel
theorem dX10_city_292 : decode cX10_city 292 = .ok (.invokevirtual 279, 3) := by decide +kernel
theorem dX10_city_295 : decode cX10_city 295 = .ok (.iconst 0, 1) := by decide +kernel
theorem dX10_city_296 : decode cX10_city 296 = .ok (.istore_n 2, 1) := by decide +kernel
theorem dX10_city_297 : decode cX10_city 297 = .ok (.iload_n 2, 1) := by decide +kernel
theorem dX10_city_298 : decode cX10_city 298 = .ok (.bipush 105, 2) := by decide +kernel
theorem dX10_city_300 : decode cX10_city 300 = .ok (.if_icmp .ge 21, 3) := by decide +kernel
theorem dX10_city_303 : decode cX10_city 303 = .ok (.aload_n 0, 1) := by decide +kernel
theorem dX10_city_304 : decode cX10_city 304 = .ok (.getfield 66, 3) := by decide +kernel
theorem dX10_city_307 : decode cX10_city 307 = .ok (.iload_n 2, 1) := by decide +kernel
theorem dX10_city_308 : decode cX10_city 308 = .ok (.aload_n 0, 1) := by decide +kernel
theorem dX10_city_309 : decode cX10_city 309 = .ok (.getfield 51, 3) := by decide +kernel
theorem dX10_city_312 : decode cX10_city 312 = .ok (.iload_n 2, 1) := by decide +kernel
theorem dX10_city_313 : decode cX10_city 313 = .ok (.iaload, 1) := by decide +kernel
theorem dX10_city_314 : decode cX10_city 314 = .ok (.iastore, 1) := by decide +kernel
theorem dX10_city_315 : decode cX10_city 315 = .ok (.iinc 2 1, 3) := by decide +kernel
theorem dX10_city_318 : decode cX10_city 318 = .ok (.goto (-21), 3) := by decide +kernel
theorem dX10_city_321 : decode cX10_city 321 = .ok (.aload_n 0, 1) := by decide +kernel
theorem dX10_city_322 : decode cX10_city 322 = .ok (.iconst 0, 1) := by decide +kernel
theorem dX10_city_323 : decode cX10_city 323 = .ok (.putfield 283, 3) := by decide +kernel
theorem dX10_city_326 : decode cX10_city 326 = .ok (.aload_n 0, 1) := by decide +kernel
theorem dX10_city_327 : decode cX10_city 327 = .ok (.iconst 0, 1) := by decide +kernel
theorem dX10_city_328 : decode cX10_city 328 = .ok (.putfield 286, 3) := by decide +kernel
theorem dX10_city_331 : decode cX10_city 331 = .ok (.aload_n 0, 1) := by decide +kernel
theorem dX10_city_332 : decode cX10_city 332 = .ok (.iconst 0, 1) := by decide +kernel
theorem dX10_city_333 : decode cX10_city 333 = .ok (.putfield 289, 3) := by decide +kernel
theorem dX10_city_336 : decode cX10_city 336 = .ok (.iconst 0, 1) := by decide +kernel
theorem dX10_city_337 : decode cX10_city 337 = .ok (.ireturn, 1) := by decide +kernel
theorem dX10_fault_0 : decode cX10_fault 0 = .ok (.aload_n 0, 1) := by decide +kernel
theorem dX10_fault_1 : decode cX10_fault 1 = .ok (.iconst 0, 1) := by decide +kernel
theorem dX10_fault_2 : decode cX10_fault 2 = .ok (.putfield 102, 3) := by decide +kernel
theorem dX10_fault_5 : decode cX10_fault 5 = .ok (.aload_n 0, 1) := by decide +kernel
theorem dX10_fault_6 : decode cX10_fault 6 = .ok (.getfield 39, 3) := by decide +kernel
theorem dX10_fault_9 : decode cX10_fault 9 = .ok (.ireturn, 1) := by decide +kernel
theorem dX10_keeps_0 : decode cX10_keeps 0 = .ok (.aload_n 0, 1) := by decide +kernel
theorem dX10_keeps_1 : decode cX10_keeps 1 = .ok (.getfield 283, 3) := by decide +kernel
theorem dX10_keeps_4 : decode cX10_keeps 4 = .ok (.bipush 40, 2) := by decide +kernel
theorem dX10_keeps_6 : decode cX10_keeps 6 = .ok (.if_icmp .ne 44, 3) := by decide +kernel
theorem dX10_keeps_9 : decode cX10_keeps 9 = .ok (.bipush 105, 2) := by decide +kernel
theorem dX10_keeps_11 : decode cX10_keeps 11 = .ok (.istore_n 1, 1) := by decide +kernel
theorem dX10_keeps_12 : decode cX10_keeps 12 = .ok (.iload_n 1, 1) := by decide +kernel
theorem dX10_keeps_13 : decode cX10_keeps 13 = .ok (.sipush 4200, 3) := by decide +kernel
theorem dX10_keeps_16 : decode cX10_keeps 16 = .ok (.if_icmp .ge 24, 3) := by decide +kernel
theorem dX10_keeps_19 : decode cX10_keeps 19 = .ok (.aload_n 0, 1) := by decide +kernel
theorem dX10_keeps_20 : decode cX10_keeps 20 = .ok (.getfield 69, 3) := by decide +kernel
theorem dX10_keeps_23 : decode cX10_keeps 23 = .ok (.iload_n 1, 1) := by decide +kernel
theorem dX10_keeps_24 : decode cX10_keeps 24 = .ok (.bipush 105, 2) := by decide +kernel
theorem dX10_keeps_26 : decode cX10_keeps 26 = .ok (.isub, 1) := by decide +kernel
theorem dX10_keeps_27 : decode cX10_keeps 27 = .ok (.aload_n 0, 1) := by decide +kernel
theorem dX10_keeps_28 : decode cX10_keeps 28 = .ok (.getfield 69, 3) := by decide +kernel
theorem dX10_keeps_31 : decode cX10_keeps 31 = .ok (.iload_n 1, 1) := by decide +kernel
theorem dX10_keeps_32 : decode cX10_keeps 32 = .ok (.iaload, 1) := by decide +kernel
theorem dX10_keeps_33 : decode cX10_keeps 33 = .ok (.iastore, 1) := by decide +kernel
theorem dX10_keeps_34 : decode cX10_keeps 34 = .ok (.iinc 1 1, 3) := by decide +kernel
theorem dX10_keeps_37 : decode cX10_keeps 37 = .ok (.goto (-25), 3) := by decide +kernel
theorem dX10_keeps_40 : decode cX10_keeps 40 = .ok (.aload_n 0, 1) := by decide +kernel
theorem dX10_keeps_41 : decode cX10_keeps 41 = .ok (.dup, 1) := by decide +kernel
theorem dX10_keeps_42 : decode cX10_keeps 42 = .ok (.getfield 283, 3) := by decide +kernel
theorem dX10_keeps_45 : decode cX10_keeps 45 = .ok (.iconst 1, 1) := by decide +kernel
theorem dX10_keeps_46 : decode cX10_keeps 46 = .ok (.isub, 1) := by decide +kernel
theorem dX10_keeps_47 : decode cX10_keeps 47 = .ok (.putfield 283, 3) := by decide +kernel
theorem dX10_keeps_50 : decode cX10_keeps 50 = .ok (.iconst 0, 1) := by decide +kernel
theorem dX10_keeps_51 : decode cX10_keeps 51 = .ok (.istore_n 1, 1) := by decide +kernel
theorem dX10_keeps_52 : decode cX10_keeps 52 = .ok (.iload_n 1, 1) := by decide +kernel
theorem dX10_keeps_53 : decode cX10_keeps 53 = .ok (.bipush 105, 2) := by decide +kernel
theorem dX10_keeps_55 : decode cX10_keeps 55 = .ok (.if_icmp .ge 29, 3) := by decide +kernel
theorem dX10_keeps_58 : decode cX10_keeps 58 = .ok (.aload_n 0, 1) := by decide +kernel
theorem dX10_keeps_59 : decode cX10_keeps 59 = .ok (.getfield 69, 3) := by decide +kernel
theorem dX10_keeps_62 : decode cX10_keeps 62 = .ok (.bipush 105, 2) := by decide +kernel
theorem dX10_keeps_64 : decode cX10_keeps 64 = .ok (.aload_n 0, 1) := by decide +kernel
theorem dX10_keeps_65 : decode cX10_keeps 65 = .ok (.getfield 283, 3) := by decide +kernel
theorem dX10_keeps_68 : decode cX10_keeps 68 = .ok (.imul, 1) := by decide +kernel
theorem dX10_keeps_69 : decode cX10_keeps 69 = .ok (.iload_n 1, 1) := by decide +kernel
theorem dX10_keeps_70 : decode cX10_keeps 70 = .ok (.iadd, 1) := by decide +kernel
theorem dX10_keeps_71 : decode cX10_keeps 71 = .ok (.aload_n 0, 1) := by decide +kernel
theorem dX10_keeps_72 : decode cX10_keeps 72 = .ok (.getfield 66, 3) := by decide +kernel
theorem dX10_keeps_75 : decode cX10_keeps 75 = .ok (.iload_n 1, 1) := by decide +kernel
theorem dX10_keeps_76 : decode cX10_keeps 76 = .ok (.iaload, 1) := by decide +kernel
theorem dX10_keeps_77 : decode cX10_keeps 77 = .ok (.iastore, 1) := by decide +kernel
theorem dX10_keeps_78 : decode cX10_keeps 78 = .ok (.iinc 1 1, 3) := by decide +kernel
theorem dX10_keeps_81 : decode cX10_keeps 81 = .ok (.goto (-29), 3) := by decide +kernel
theorem dX10_keeps_84 : decode cX10_keeps 84 = .ok (.aload_n 0, 1) := by decide +kernel
theorem dX10_keeps_85 : decode cX10_keeps 85 = .ok (.dup, 1) := by decide +kernel
theorem dX10_keeps_86 : decode cX10_keeps 86 = .ok (.getfield 283, 3) := by decide +kernel
theorem dX10_keeps_89 : decode cX10_keeps 89 = .ok (.iconst 1, 1) := by decide +kernel
theorem dX10_keeps_90 : decode cX10_keeps 90 = .ok (.iadd, 1) := by decide +kernel
theorem dX10_keeps_91 : decode cX10_keeps 91 = .ok (.putfield 283, 3) := by decide +kernel
theorem dX10_keeps_94 : decode cX10_keeps 94 = .ok (.return_, 1) := by decide +kernel
theorem dX10_refuses_0 : decode cX10_refuses 0 = .ok (.aload_n 0, 1) := by decide +kernel
theorem dX10_refuses_1 : decode cX10_refuses 1 = .ok (.getfield 42, 3) := by decide +kernel
theorem dX10_refuses_4 : decode cX10_refuses 4 = .ok (.iload_n 1, 1) := by decide +kernel
theorem dX10_refuses_5 : decode cX10_refuses 5 = .ok (.dup2, 1) := by decide +kernel
theorem dX10_refuses_6 : decode cX10_refuses 6 = .ok (.iaload, 1) := by decide +kernel
theorem dX10_refuses_7 : decode cX10_refuses 7 = .ok (.iconst 1, 1) := by decide +kernel
theorem dX10_refuses_8 : decode cX10_refuses 8 = .ok (.iadd, 1) := by decide +kernel
theorem dX10_refuses_9 : decode cX10_refuses 9 = .ok (.iastore, 1) := by decide +kernel
theorem dX10_refuses_10 : decode cX10_refuses 10 = .ok (.iconst (-1), 1) := by decide +kernel
theorem dX10_refuses_11 : decode cX10_refuses 11 = .ok (.ireturn, 1) := by decide +kernel
theorem dX10_undo_0 : decode cX10_undo 0 = .ok (.aload_n 0, 1) := by decide +kernel
theorem dX10_undo_1 : decode cX10_undo 1 = .ok (.iconst 0, 1) := by decide +kernel
theorem dX10_undo_2 : decode cX10_undo 2 = .ok (.putfield 102, 3) := by decide +kernel
theorem dX10_undo_5 : decode cX10_undo 5 = .ok (.aload_n 0, 1) := by decide +kernel
theorem dX10_undo_6 : decode cX10_undo 6 = .ok (.getfield 283, 3) := by decide +kernel
theorem dX10_undo_9 : decode cX10_undo 9 = .ok (.ifCond .ne 5, 3) := by decide +kernel
theorem dX10_undo_12 : decode cX10_undo 12 = .ok (.iconst (-1), 1) := by decide +kernel
theorem dX10_undo_13 : decode cX10_undo 13 = .ok (.ireturn, 1) := by decide +kernel
theorem dX10_undo_14 : decode cX10_undo 14 = .ok (.aload_n 0, 1) := by decide +kernel
theorem dX10_undo_15 : decode cX10_undo 15 = .ok (.dup, 1) := by decide +kernel
theorem dX10_undo_16 : decode cX10_undo 16 = .ok (.getfield 283, 3) := by decide +kernel
theorem dX10_undo_19 : decode cX10_undo 19 = .ok (.iconst 1, 1) := by decide +kernel
theorem dX10_undo_20 : decode cX10_undo 20 = .ok (.isub, 1) := by decide +kernel
theorem dX10_undo_21 : decode cX10_undo 21 = .ok (.putfield 283, 3) := by decide +kernel
theorem dX10_undo_24 : decode cX10_undo 24 = .ok (.iconst 0, 1) := by decide +kernel
theorem dX10_undo_25 : decode cX10_undo 25 = .ok (.istore_n 1, 1) := by decide +kernel
theorem dX10_undo_26 : decode cX10_undo 26 = .ok (.iload_n 1, 1) := by decide +kernel
theorem dX10_undo_27 : decode cX10_undo 27 = .ok (.bipush 105, 2) := by decide +kernel
theorem dX10_undo_29 : decode cX10_undo 29 = .ok (.if_icmp .ge 29, 3) := by decide +kernel
theorem dX10_undo_32 : decode cX10_undo 32 = .ok (.aload_n 0, 1) := by decide +kernel
theorem dX10_undo_33 : decode cX10_undo 33 = .ok (.getfield 66, 3) := by decide +kernel
theorem dX10_undo_36 : decode cX10_undo 36 = .ok (.iload_n 1, 1) := by decide +kernel
theorem dX10_undo_37 : decode cX10_undo 37 = .ok (.aload_n 0, 1) := by decide +kernel
theorem dX10_undo_38 : decode cX10_undo 38 = .ok (.getfield 69, 3) := by decide +kernel
theorem dX10_undo_41 : decode cX10_undo 41 = .ok (.bipush 105, 2) := by decide +kernel
theorem dX10_undo_43 : decode cX10_undo 43 = .ok (.aload_n 0, 1) := by decide +kernel
theorem dX10_undo_44 : decode cX10_undo 44 = .ok (.getfield 283, 3) := by decide +kernel
theorem dX10_undo_47 : decode cX10_undo 47 = .ok (.imul, 1) := by decide +kernel
theorem dX10_undo_48 : decode cX10_undo 48 = .ok (.iload_n 1, 1) := by decide +kernel
theorem dX10_undo_49 : decode cX10_undo 49 = .ok (.iadd, 1) := by decide +kernel
theorem dX10_undo_50 : decode cX10_undo 50 = .ok (.iaload, 1) := by decide +kernel
theorem dX10_undo_51 : decode cX10_undo 51 = .ok (.iastore, 1) := by decide +kernel
theorem dX10_undo_52 : decode cX10_undo 52 = .ok (.iinc 1 1, 3) := by decide +kernel
theorem dX10_undo_55 : decode cX10_undo 55 = .ok (.goto (-29), 3) := by decide +kernel
theorem dX10_undo_58 : decode cX10_undo 58 = .ok (.aload_n 0, 1) := by decide +kernel
theorem dX10_undo_59 : decode cX10_undo 59 = .ok (.getfield 283, 3) := by decide +kernel
theorem dX10_undo_62 : decode cX10_undo 62 = .ok (.ireturn, 1) := by decide +kernel
theorem dX10_tries_0 : decode cX10_tries 0 = .ok (.iconst 0, 1) := by decide +kernel
theorem dX10_tries_1 : decode cX10_tries 1 = .ok (.istore_n 1, 1) := by decide +kernel
theorem dX10_tries_2 : decode cX10_tries 2 = .ok (.iload_n 1, 1) := by decide +kernel
theorem dX10_tries_3 : decode cX10_tries 3 = .ok (.bipush 105, 2) := by decide +kernel
theorem dX10_tries_5 : decode cX10_tries 5 = .ok (.if_icmp .ge 24, 3) := by decide +kernel
theorem dX10_tries_8 : decode cX10_tries 8 = .ok (.aload_n 0, 1) := by decide +kernel
theorem dX10_tries_9 : decode cX10_tries 9 = .ok (.getfield 66, 3) := by decide +kernel
theorem dX10_tries_12 : decode cX10_tries 12 = .ok (.bipush 105, 2) := by decide +kernel
theorem dX10_tries_14 : decode cX10_tries 14 = .ok (.iload_n 1, 1) := by decide +kernel
theorem dX10_tries_15 : decode cX10_tries 15 = .ok (.iadd, 1) := by decide +kernel
theorem dX10_tries_16 : decode cX10_tries 16 = .ok (.aload_n 0, 1) := by decide +kernel
theorem dX10_tries_17 : decode cX10_tries 17 = .ok (.getfield 66, 3) := by decide +kernel
theorem dX10_tries_20 : decode cX10_tries 20 = .ok (.iload_n 1, 1) := by decide +kernel
theorem dX10_tries_21 : decode cX10_tries 21 = .ok (.iaload, 1) := by decide +kernel
theorem dX10_tries_22 : decode cX10_tries 22 = .ok (.iastore, 1) := by decide +kernel
theorem dX10_tries_23 : decode cX10_tries 23 = .ok (.iinc 1 1, 3) := by decide +kernel
theorem dX10_tries_26 : decode cX10_tries 26 = .ok (.goto (-24), 3) := by decide +kernel
theorem dX10_tries_29 : decode cX10_tries 29 = .ok (.return_, 1) := by decide +kernel
theorem dX10_works_0 : decode cX10_works 0 = .ok (.iload_n 0, 1) := by decide +kernel
theorem dX10_works_1 : decode cX10_works 1 = .ok (.tableswitch 105 4 10 #[43, 57, 71, 82, 93, 97, 101], 43) := by decide +kernel
theorem dX10_works_44 : decode cX10_works 44 = .ok (.iload_n 1, 1) := by decide +kernel
theorem dX10_works_45 : decode cX10_works 45 = .ok (.ifCond .eq 11, 3) := by decide +kernel
theorem dX10_works_48 : decode cX10_works 48 = .ok (.iload_n 2, 1) := by decide +kernel
theorem dX10_works_49 : decode cX10_works 49 = .ok (.ifCond .eq 7, 3) := by decide +kernel
theorem dX10_works_52 : decode cX10_works 52 = .ok (.iconst 1, 1) := by decide +kernel
theorem dX10_works_53 : decode cX10_works 53 = .ok (.goto 4, 3) := by decide +kernel
theorem dX10_works_56 : decode cX10_works 56 = .ok (.iconst 0, 1) := by decide +kernel
theorem dX10_works_57 : decode cX10_works 57 = .ok (.ireturn, 1) := by decide +kernel
theorem dX10_works_58 : decode cX10_works 58 = .ok (.iload_n 1, 1) := by decide +kernel
theorem dX10_works_59 : decode cX10_works 59 = .ok (.ifCond .ne 7, 3) := by decide +kernel
theorem dX10_works_62 : decode cX10_works 62 = .ok (.iload_n 2, 1) := by decide +kernel
theorem dX10_works_63 : decode cX10_works 63 = .ok (.ifCond .eq 7, 3) := by decide +kernel
theorem dX10_works_66 : decode cX10_works 66 = .ok (.iconst 1, 1) := by decide +kernel
theorem dX10_works_67 : decode cX10_works 67 = .ok (.goto 4, 3) := by decide +kernel
theorem dX10_works_70 : decode cX10_works 70 = .ok (.iconst 0, 1) := by decide +kernel
theorem dX10_works_71 : decode cX10_works 71 = .ok (.ireturn, 1) := by decide +kernel
theorem dX10_works_72 : decode cX10_works 72 = .ok (.iload_n 1, 1) := by decide +kernel
theorem dX10_works_73 : decode cX10_works 73 = .ok (.iload_n 2, 1) := by decide +kernel
theorem dX10_works_74 : decode cX10_works 74 = .ok (.if_icmp .ge 7, 3) := by decide +kernel
theorem dX10_works_77 : decode cX10_works 77 = .ok (.iconst 1, 1) := by decide +kernel
theorem dX10_works_78 : decode cX10_works 78 = .ok (.goto 4, 3) := by decide +kernel
theorem dX10_works_81 : decode cX10_works 81 = .ok (.iconst 0, 1) := by decide +kernel
theorem dX10_works_82 : decode cX10_works 82 = .ok (.ireturn, 1) := by decide +kernel
theorem dX10_works_83 : decode cX10_works 83 = .ok (.iload_n 1, 1) := by decide +kernel
theorem dX10_works_84 : decode cX10_works 84 = .ok (.iload_n 2, 1) := by decide +kernel
theorem dX10_works_85 : decode cX10_works 85 = .ok (.if_icmp .ne 7, 3) := by decide +kernel
theorem dX10_works_88 : decode cX10_works 88 = .ok (.iconst 1, 1) := by decide +kernel
theorem dX10_works_89 : decode cX10_works 89 = .ok (.goto 4, 3) := by decide +kernel
theorem dX10_works_92 : decode cX10_works 92 = .ok (.iconst 0, 1) := by decide +kernel
theorem dX10_works_93 : decode cX10_works 93 = .ok (.ireturn, 1) := by decide +kernel
theorem dX10_works_94 : decode cX10_works 94 = .ok (.iload_n 1, 1) := by decide +kernel
theorem dX10_works_95 : decode cX10_works 95 = .ok (.iload_n 2, 1) := by decide +kernel
theorem dX10_works_96 : decode cX10_works 96 = .ok (.iadd, 1) := by decide +kernel
theorem dX10_works_97 : decode cX10_works 97 = .ok (.ireturn, 1) := by decide +kernel
theorem dX10_works_98 : decode cX10_works 98 = .ok (.iload_n 1, 1) := by decide +kernel
theorem dX10_works_99 : decode cX10_works 99 = .ok (.iload_n 2, 1) := by decide +kernel
theorem dX10_works_100 : decode cX10_works 100 = .ok (.isub, 1) := by decide +kernel
theorem dX10_works_101 : decode cX10_works 101 = .ok (.ireturn, 1) := by decide +kernel
theorem dX10_works_102 : decode cX10_works 102 = .ok (.iload_n 1, 1) := by decide +kernel
theorem dX10_works_103 : decode cX10_works 103 = .ok (.iload_n 2, 1) := by decide +kernel
theorem dX10_works_104 : decode cX10_works 104 = .ok (.imul, 1) := by decide +kernel
theorem dX10_works_105 : decode cX10_works 105 = .ok (.ireturn, 1) := by decide +kernel
theorem dX10_works_106 : decode cX10_works 106 = .ok (.iload_n 2, 1) := by decide +kernel
theorem dX10_works_107 : decode cX10_works 107 = .ok (.ifCond .ne 7, 3) := by decide +kernel
theorem dX10_works_110 : decode cX10_works 110 = .ok (.iconst 0, 1) := by decide +kernel
theorem dX10_works_111 : decode cX10_works 111 = .ok (.goto 6, 3) := by decide +kernel
theorem dX10_works_114 : decode cX10_works 114 = .ok (.iload_n 1, 1) := by decide +kernel
theorem dX10_works_115 : decode cX10_works 115 = .ok (.iload_n 2, 1) := by decide +kernel
theorem dX10_works_116 : decode cX10_works 116 = .ok (.idiv, 1) := by decide +kernel
theorem dX10_works_117 : decode cX10_works 117 = .ok (.ireturn, 1) := by decide +kernel
theorem dX10_reckons_0 : decode cX10_reckons 0 = .ok (.iconst 0, 1) := by decide +kernel
theorem dX10_reckons_1 : decode cX10_reckons 1 = .ok (.istore_n 2, 1) := by decide +kernel
theorem dX10_reckons_2 : decode cX10_reckons 2 = .ok (.iload_n 1, 1) := by decide +kernel
theorem dX10_reckons_3 : decode cX10_reckons 3 = .ok (.istore_n 3, 1) := by decide +kernel
theorem dX10_reckons_4 : decode cX10_reckons 4 = .ok (.aload_n 0, 1) := by decide +kernel
theorem dX10_reckons_5 : decode cX10_reckons 5 = .ok (.getfield 29, 3) := by decide +kernel
theorem dX10_reckons_8 : decode cX10_reckons 8 = .ok (.iload_n 3, 1) := by decide +kernel
theorem dX10_reckons_9 : decode cX10_reckons 9 = .ok (.iaload, 1) := by decide +kernel
theorem dX10_reckons_10 : decode cX10_reckons 10 = .ok (.ifCond .eq 133, 3) := by decide +kernel
theorem dX10_reckons_13 : decode cX10_reckons 13 = .ok (.aload_n 0, 1) := by decide +kernel
theorem dX10_reckons_14 : decode cX10_reckons 14 = .ok (.getfield 29, 3) := by decide +kernel
theorem dX10_reckons_17 : decode cX10_reckons 17 = .ok (.iload_n 3, 1) := by decide +kernel
theorem dX10_reckons_18 : decode cX10_reckons 18 = .ok (.iaload, 1) := by decide +kernel
theorem dX10_reckons_19 : decode cX10_reckons 19 = .ok (.istore 4, 2) := by decide +kernel
theorem dX10_reckons_21 : decode cX10_reckons 21 = .ok (.iinc 3 1, 3) := by decide +kernel
theorem dX10_reckons_24 : decode cX10_reckons 24 = .ok (.iload 4, 2) := by decide +kernel
theorem dX10_reckons_26 : decode cX10_reckons 26 = .ok (.iconst 1, 1) := by decide +kernel
theorem dX10_reckons_27 : decode cX10_reckons 27 = .ok (.if_icmp .eq 9, 3) := by decide +kernel
theorem dX10_reckons_30 : decode cX10_reckons 30 = .ok (.iload 4, 2) := by decide +kernel
theorem dX10_reckons_32 : decode cX10_reckons 32 = .ok (.iconst 2, 1) := by decide +kernel
theorem dX10_reckons_33 : decode cX10_reckons 33 = .ok (.if_icmp .ne 44, 3) := by decide +kernel
theorem dX10_reckons_36 : decode cX10_reckons 36 = .ok (.aload_n 0, 1) := by decide +kernel
theorem dX10_reckons_37 : decode cX10_reckons 37 = .ok (.getfield 75, 3) := by decide +kernel
theorem dX10_reckons_40 : decode cX10_reckons 40 = .ok (.iload_n 2, 1) := by decide +kernel
theorem dX10_reckons_41 : decode cX10_reckons 41 = .ok (.iload 4, 2) := by decide +kernel
theorem dX10_reckons_43 : decode cX10_reckons 43 = .ok (.iconst 1, 1) := by decide +kernel
theorem dX10_reckons_44 : decode cX10_reckons 44 = .ok (.if_icmp .ne 12, 3) := by decide +kernel
theorem dX10_reckons_47 : decode cX10_reckons 47 = .ok (.aload_n 0, 1) := by decide +kernel
theorem dX10_reckons_48 : decode cX10_reckons 48 = .ok (.getfield 29, 3) := by decide +kernel
theorem dX10_reckons_51 : decode cX10_reckons 51 = .ok (.iload_n 3, 1) := by decide +kernel
theorem dX10_reckons_52 : decode cX10_reckons 52 = .ok (.iaload, 1) := by decide +kernel
theorem dX10_reckons_53 : decode cX10_reckons 53 = .ok (.goto 14, 3) := by decide +kernel
theorem dX10_reckons_56 : decode cX10_reckons 56 = .ok (.aload_n 0, 1) := by decide +kernel
theorem dX10_reckons_57 : decode cX10_reckons 57 = .ok (.getfield 72, 3) := by decide +kernel
theorem dX10_reckons_60 : decode cX10_reckons 60 = .ok (.aload_n 0, 1) := by decide +kernel
theorem dX10_reckons_61 : decode cX10_reckons 61 = .ok (.getfield 29, 3) := by decide +kernel
theorem dX10_reckons_64 : decode cX10_reckons 64 = .ok (.iload_n 3, 1) := by decide +kernel
theorem dX10_reckons_65 : decode cX10_reckons 65 = .ok (.iaload, 1) := by decide +kernel
theorem dX10_reckons_66 : decode cX10_reckons 66 = .ok (.iaload, 1) := by decide +kernel
theorem dX10_reckons_67 : decode cX10_reckons 67 = .ok (.iastore, 1) := by decide +kernel
theorem dX10_reckons_68 : decode cX10_reckons 68 = .ok (.iinc 3 1, 3) := by decide +kernel
theorem dX10_reckons_71 : decode cX10_reckons 71 = .ok (.iinc 2 1, 3) := by decide +kernel
theorem dX10_reckons_74 : decode cX10_reckons 74 = .ok (.goto 66, 3) := by decide +kernel
theorem dX10_reckons_77 : decode cX10_reckons 77 = .ok (.iload 4, 2) := by decide +kernel
theorem dX10_reckons_79 : decode cX10_reckons 79 = .ok (.iconst 3, 1) := by decide +kernel
theorem dX10_reckons_80 : decode cX10_reckons 80 = .ok (.if_icmp .ne 30, 3) := by decide +kernel
theorem dX10_reckons_83 : decode cX10_reckons 83 = .ok (.aload_n 0, 1) := by decide +kernel
theorem dX10_reckons_84 : decode cX10_reckons 84 = .ok (.getfield 75, 3) := by decide +kernel
theorem dX10_reckons_87 : decode cX10_reckons 87 = .ok (.iload_n 2, 1) := by decide +kernel
theorem dX10_reckons_88 : decode cX10_reckons 88 = .ok (.iconst 1, 1) := by decide +kernel
theorem dX10_reckons_89 : decode cX10_reckons 89 = .ok (.isub, 1) := by decide +kernel
theorem dX10_reckons_90 : decode cX10_reckons 90 = .ok (.aload_n 0, 1) := by decide +kernel
theorem dX10_reckons_91 : decode cX10_reckons 91 = .ok (.getfield 75, 3) := by decide +kernel
theorem dX10_reckons_94 : decode cX10_reckons 94 = .ok (.iload_n 2, 1) := by decide +kernel
theorem dX10_reckons_95 : decode cX10_reckons 95 = .ok (.iconst 1, 1) := by decide +kernel
theorem dX10_reckons_96 : decode cX10_reckons 96 = .ok (.isub, 1) := by decide +kernel
theorem dX10_reckons_97 : decode cX10_reckons 97 = .ok (.iaload, 1) := by decide +kernel
theorem dX10_reckons_98 : decode cX10_reckons 98 = .ok (.ifCond .ne 7, 3) := by decide +kernel
theorem dX10_reckons_101 : decode cX10_reckons 101 = .ok (.iconst 1, 1) := by decide +kernel
theorem dX10_reckons_102 : decode cX10_reckons 102 = .ok (.goto 4, 3) := by decide +kernel
theorem dX10_reckons_105 : decode cX10_reckons 105 = .ok (.iconst 0, 1) := by decide +kernel
theorem dX10_reckons_106 : decode cX10_reckons 106 = .ok (.iastore, 1) := by decide +kernel
theorem dX10_reckons_107 : decode cX10_reckons 107 = .ok (.goto 33, 3) := by decide +kernel
theorem dX10_reckons_110 : decode cX10_reckons 110 = .ok (.iinc 2 (-1), 3) := by decide +kernel
theorem dX10_reckons_113 : decode cX10_reckons 113 = .ok (.aload_n 0, 1) := by decide +kernel
theorem dX10_reckons_114 : decode cX10_reckons 114 = .ok (.getfield 75, 3) := by decide +kernel
theorem dX10_reckons_117 : decode cX10_reckons 117 = .ok (.iload_n 2, 1) := by decide +kernel
theorem dX10_reckons_118 : decode cX10_reckons 118 = .ok (.iconst 1, 1) := by decide +kernel
theorem dX10_reckons_119 : decode cX10_reckons 119 = .ok (.isub, 1) := by decide +kernel
theorem dX10_reckons_120 : decode cX10_reckons 120 = .ok (.iload 4, 2) := by decide +kernel
theorem dX10_reckons_122 : decode cX10_reckons 122 = .ok (.aload_n 0, 1) := by decide +kernel
theorem dX10_reckons_123 : decode cX10_reckons 123 = .ok (.getfield 75, 3) := by decide +kernel
theorem dX10_reckons_126 : decode cX10_reckons 126 = .ok (.iload_n 2, 1) := by decide +kernel
theorem dX10_reckons_127 : decode cX10_reckons 127 = .ok (.iconst 1, 1) := by decide +kernel
theorem dX10_reckons_128 : decode cX10_reckons 128 = .ok (.isub, 1) := by decide +kernel
theorem dX10_reckons_129 : decode cX10_reckons 129 = .ok (.iaload, 1) := by decide +kernel
theorem dX10_reckons_130 : decode cX10_reckons 130 = .ok (.aload_n 0, 1) := by decide +kernel
theorem dX10_reckons_131 : decode cX10_reckons 131 = .ok (.getfield 75, 3) := by decide +kernel
theorem dX10_reckons_134 : decode cX10_reckons 134 = .ok (.iload_n 2, 1) := by decide +kernel
theorem dX10_reckons_135 : decode cX10_reckons 135 = .ok (.iaload, 1) := by decide +kernel
theorem dX10_reckons_136 : decode cX10_reckons 136 = .ok (.invokestatic 293, 3) := by decide +kernel
theorem dX10_reckons_139 : decode cX10_reckons 139 = .ok (.iastore, 1) := by decide +kernel
theorem dX10_reckons_140 : decode cX10_reckons 140 = .ok (.goto (-136), 3) := by decide +kernel
theorem dX10_reckons_143 : decode cX10_reckons 143 = .ok (.aload_n 0, 1) := by decide +kernel
theorem dX10_reckons_144 : decode cX10_reckons 144 = .ok (.getfield 75, 3) := by decide +kernel
theorem dX10_reckons_147 : decode cX10_reckons 147 = .ok (.iconst 0, 1) := by decide +kernel
theorem dX10_reckons_148 : decode cX10_reckons 148 = .ok (.iaload, 1) := by decide +kernel
theorem dX10_reckons_149 : decode cX10_reckons 149 = .ok (.ireturn, 1) := by decide +kernel
theorem dX10_placeOn_0 : decode cX10_placeOn 0 = .ok (.aload_n 0, 1) := by decide +kernel
theorem dX10_placeOn_1 : decode cX10_placeOn 1 = .ok (.getfield 66, 3) := by decide +kernel
theorem dX10_placeOn_4 : decode cX10_placeOn 4 = .ok (.iload_n 1, 1) := by decide +kernel
theorem dX10_placeOn_5 : decode cX10_placeOn 5 = .ok (.bipush 57, 2) := by decide +kernel
theorem dX10_placeOn_7 : decode cX10_placeOn 7 = .ok (.iadd, 1) := by decide +kernel
theorem dX10_placeOn_8 : decode cX10_placeOn 8 = .ok (.bipush 6, 2) := by decide +kernel
theorem dX10_placeOn_10 : decode cX10_placeOn 10 = .ok (.iload_n 2, 1) := by decide +kernel
theorem dX10_placeOn_11 : decode cX10_placeOn 11 = .ok (.imul, 1) := by decide +kernel
theorem dX10_placeOn_12 : decode cX10_placeOn 12 = .ok (.iadd, 1) := by decide +kernel
theorem dX10_placeOn_13 : decode cX10_placeOn 13 = .ok (.iload_n 3, 1) := by decide +kernel
theorem dX10_placeOn_14 : decode cX10_placeOn 14 = .ok (.aload_n 0, 1) := by decide +kernel
theorem dX10_placeOn_15 : decode cX10_placeOn 15 = .ok (.getfield 22, 3) := by decide +kernel
theorem dX10_placeOn_18 : decode cX10_placeOn 18 = .ok (.iload_n 2, 1) := by decide +kernel
theorem dX10_placeOn_19 : decode cX10_placeOn 19 = .ok (.iaload, 1) := by decide +kernel
theorem dX10_placeOn_20 : decode cX10_placeOn 20 = .ok (.irem, 1) := by decide +kernel
theorem dX10_placeOn_21 : decode cX10_placeOn 21 = .ok (.iadd, 1) := by decide +kernel
theorem dX10_placeOn_22 : decode cX10_placeOn 22 = .ok (.iaload, 1) := by decide +kernel
theorem dX10_placeOn_23 : decode cX10_placeOn 23 = .ok (.ireturn, 1) := by decide +kernel
theorem dX10_looksAt_0 : decode cX10_looksAt 0 = .ok (.iconst 0, 1) := by decide +kernel
theorem dX10_looksAt_1 : decode cX10_looksAt 1 = .ok (.istore 4, 2) := by decide +kernel
theorem dX10_looksAt_3 : decode cX10_looksAt 3 = .ok (.iconst 0, 1) := by decide +kernel
theorem dX10_looksAt_4 : decode cX10_looksAt 4 = .ok (.istore 5, 2) := by decide +kernel
theorem dX10_looksAt_6 : decode cX10_looksAt 6 = .ok (.iload 5, 2) := by decide +kernel
theorem dX10_looksAt_8 : decode cX10_looksAt 8 = .ok (.aload_n 0, 1) := by decide +kernel
theorem dX10_looksAt_9 : decode cX10_looksAt 9 = .ok (.getfield 273, 3) := by decide +kernel
theorem dX10_looksAt_12 : decode cX10_looksAt 12 = .ok (.if_icmp .ge 56, 3) := by decide +kernel
theorem dX10_looksAt_15 : decode cX10_looksAt 15 = .ok (.iload 4, 2) := by decide +kernel
theorem dX10_looksAt_17 : decode cX10_looksAt 17 = .ok (.iload 5, 2) := by decide +kernel
theorem dX10_looksAt_19 : decode cX10_looksAt 19 = .ok (.iload_n 2, 1) := by decide +kernel
theorem dX10_looksAt_20 : decode cX10_looksAt 20 = .ok (.if_icmp .eq 38, 3) := by decide +kernel
theorem dX10_looksAt_23 : decode cX10_looksAt 23 = .ok (.aload_n 0, 1) := by decide +kernel
theorem dX10_looksAt_24 : decode cX10_looksAt 24 = .ok (.getfield 32, 3) := by decide +kernel
theorem dX10_looksAt_27 : decode cX10_looksAt 27 = .ok (.iload 5, 2) := by decide +kernel
theorem dX10_looksAt_29 : decode cX10_looksAt 29 = .ok (.baload, 1) := by decide +kernel
theorem dX10_looksAt_30 : decode cX10_looksAt 30 = .ok (.ifCond .ne 28, 3) := by decide +kernel
theorem dX10_looksAt_33 : decode cX10_looksAt 33 = .ok (.aload_n 0, 1) := by decide +kernel
theorem dX10_looksAt_34 : decode cX10_looksAt 34 = .ok (.iload_n 1, 1) := by decide +kernel
theorem dX10_looksAt_35 : decode cX10_looksAt 35 = .ok (.iload 5, 2) := by decide +kernel
theorem dX10_looksAt_37 : decode cX10_looksAt 37 = .ok (.iload_n 3, 1) := by decide +kernel
theorem dX10_looksAt_38 : decode cX10_looksAt 38 = .ok (.invokevirtual 297, 3) := by decide +kernel
theorem dX10_looksAt_41 : decode cX10_looksAt 41 = .ok (.aload_n 0, 1) := by decide +kernel
theorem dX10_looksAt_42 : decode cX10_looksAt 42 = .ok (.iload_n 1, 1) := by decide +kernel
theorem dX10_looksAt_43 : decode cX10_looksAt 43 = .ok (.iload_n 2, 1) := by decide +kernel
theorem dX10_looksAt_44 : decode cX10_looksAt 44 = .ok (.iload_n 3, 1) := by decide +kernel
theorem dX10_looksAt_45 : decode cX10_looksAt 45 = .ok (.invokevirtual 297, 3) := by decide +kernel
theorem dX10_looksAt_48 : decode cX10_looksAt 48 = .ok (.if_icmp .ne 10, 3) := by decide +kernel
theorem dX10_looksAt_51 : decode cX10_looksAt 51 = .ok (.iconst 1, 1) := by decide +kernel
theorem dX10_looksAt_52 : decode cX10_looksAt 52 = .ok (.iload 5, 2) := by decide +kernel
theorem dX10_looksAt_54 : decode cX10_looksAt 54 = .ok (.ishl, 1) := by decide +kernel
theorem dX10_looksAt_55 : decode cX10_looksAt 55 = .ok (.goto 4, 3) := by decide +kernel
theorem dX10_looksAt_58 : decode cX10_looksAt 58 = .ok (.iconst 0, 1) := by decide +kernel
theorem dX10_looksAt_59 : decode cX10_looksAt 59 = .ok (.ior, 1) := by decide +kernel
theorem dX10_looksAt_60 : decode cX10_looksAt 60 = .ok (.istore 4, 2) := by decide +kernel
theorem dX10_looksAt_62 : decode cX10_looksAt 62 = .ok (.iinc 5 1, 3) := by decide +kernel
theorem dX10_looksAt_65 : decode cX10_looksAt 65 = .ok (.goto (-59), 3) := by decide +kernel
theorem dX10_looksAt_68 : decode cX10_looksAt 68 = .ok (.iload 4, 2) := by decide +kernel
theorem dX10_looksAt_70 : decode cX10_looksAt 70 = .ok (.ireturn, 1) := by decide +kernel
theorem dX10_wornBy_0 : decode cX10_wornBy 0 = .ok (.iconst 0, 1) := by decide +kernel
theorem dX10_wornBy_1 : decode cX10_wornBy 1 = .ok (.istore_n 3, 1) := by decide +kernel
theorem dX10_wornBy_2 : decode cX10_wornBy 2 = .ok (.iconst 0, 1) := by decide +kernel
theorem dX10_wornBy_3 : decode cX10_wornBy 3 = .ok (.istore 4, 2) := by decide +kernel
theorem dX10_wornBy_5 : decode cX10_wornBy 5 = .ok (.iload 4, 2) := by decide +kernel
theorem dX10_wornBy_7 : decode cX10_wornBy 7 = .ok (.aload_n 0, 1) := by decide +kernel
theorem dX10_wornBy_8 : decode cX10_wornBy 8 = .ok (.getfield 276, 3) := by decide +kernel
theorem dX10_wornBy_11 : decode cX10_wornBy 11 = .ok (.if_icmp .ge 36, 3) := by decide +kernel
theorem dX10_wornBy_14 : decode cX10_wornBy 14 = .ok (.iload_n 3, 1) := by decide +kernel
theorem dX10_wornBy_15 : decode cX10_wornBy 15 = .ok (.aload_n 0, 1) := by decide +kernel
theorem dX10_wornBy_16 : decode cX10_wornBy 16 = .ok (.getfield 66, 3) := by decide +kernel
theorem dX10_wornBy_19 : decode cX10_wornBy 19 = .ok (.iload_n 1, 1) := by decide +kernel
theorem dX10_wornBy_20 : decode cX10_wornBy 20 = .ok (.bipush 11, 2) := by decide +kernel
theorem dX10_wornBy_22 : decode cX10_wornBy 22 = .ok (.iadd, 1) := by decide +kernel
theorem dX10_wornBy_23 : decode cX10_wornBy 23 = .ok (.iload 4, 2) := by decide +kernel
theorem dX10_wornBy_25 : decode cX10_wornBy 25 = .ok (.iadd, 1) := by decide +kernel
theorem dX10_wornBy_26 : decode cX10_wornBy 26 = .ok (.iaload, 1) := by decide +kernel
theorem dX10_wornBy_27 : decode cX10_wornBy 27 = .ok (.iload_n 2, 1) := by decide +kernel
theorem dX10_wornBy_28 : decode cX10_wornBy 28 = .ok (.if_icmp .ne 10, 3) := by decide +kernel
theorem dX10_wornBy_31 : decode cX10_wornBy 31 = .ok (.iconst 1, 1) := by decide +kernel
theorem dX10_wornBy_32 : decode cX10_wornBy 32 = .ok (.iload 4, 2) := by decide +kernel
theorem dX10_wornBy_34 : decode cX10_wornBy 34 = .ok (.ishl, 1) := by decide +kernel
theorem dX10_wornBy_35 : decode cX10_wornBy 35 = .ok (.goto 4, 3) := by decide +kernel
theorem dX10_wornBy_38 : decode cX10_wornBy 38 = .ok (.iconst 0, 1) := by decide +kernel
theorem dX10_wornBy_39 : decode cX10_wornBy 39 = .ok (.ior, 1) := by decide +kernel
theorem dX10_wornBy_40 : decode cX10_wornBy 40 = .ok (.istore_n 3, 1) := by decide +kernel
theorem dX10_wornBy_41 : decode cX10_wornBy 41 = .ok (.iinc 4 1, 3) := by decide +kernel
theorem dX10_wornBy_44 : decode cX10_wornBy 44 = .ok (.goto (-39), 3) := by decide +kernel
theorem dX10_wornBy_47 : decode cX10_wornBy 47 = .ok (.iload_n 3, 1) := by decide +kernel
theorem dX10_wornBy_48 : decode cX10_wornBy 48 = .ok (.ireturn, 1) := by decide +kernel
theorem dX10_wornOnes_0 : decode cX10_wornOnes 0 = .ok (.iconst 1, 1) := by decide +kernel
theorem dX10_wornOnes_1 : decode cX10_wornOnes 1 = .ok (.aload_n 0, 1) := by decide +kernel
theorem dX10_wornOnes_2 : decode cX10_wornOnes 2 = .ok (.getfield 276, 3) := by decide +kernel
theorem dX10_wornOnes_5 : decode cX10_wornOnes 5 = .ok (.ishl, 1) := by decide +kernel
theorem dX10_wornOnes_6 : decode cX10_wornOnes 6 = .ok (.iconst 1, 1) := by decide +kernel
theorem dX10_wornOnes_7 : decode cX10_wornOnes 7 = .ok (.isub, 1) := by decide +kernel
theorem dX10_wornOnes_8 : decode cX10_wornOnes 8 = .ok (.aload_n 0, 1) := by decide +kernel
theorem dX10_wornOnes_9 : decode cX10_wornOnes 9 = .ok (.iload_n 1, 1) := by decide +kernel
theorem dX10_wornOnes_10 : decode cX10_wornOnes 10 = .ok (.iconst (-1), 1) := by decide +kernel
theorem dX10_wornOnes_11 : decode cX10_wornOnes 11 = .ok (.invokevirtual 300, 3) := by decide +kernel
theorem dX10_wornOnes_14 : decode cX10_wornOnes 14 = .ok (.iconst (-1), 1) := by decide +kernel
theorem dX10_wornOnes_15 : decode cX10_wornOnes 15 = .ok (.ixor, 1) := by decide +kernel
theorem dX10_wornOnes_16 : decode cX10_wornOnes 16 = .ok (.iand, 1) := by decide +kernel
theorem dX10_wornOnes_17 : decode cX10_wornOnes 17 = .ok (.ireturn, 1) := by decide +kernel
theorem dX10_eyesOn_0 : decode cX10_eyesOn 0 = .ok (.aload_n 0, 1) := by decide +kernel
theorem dX10_eyesOn_1 : decode cX10_eyesOn 1 = .ok (.getfield 303, 3) := by decide +kernel
theorem dX10_eyesOn_4 : decode cX10_eyesOn 4 = .ok (.ifCond .eq 7, 3) := by decide +kernel
theorem dX10_eyesOn_7 : decode cX10_eyesOn 7 = .ok (.iconst 0, 1) := by decide +kernel
theorem dX10_eyesOn_8 : decode cX10_eyesOn 8 = .ok (.goto 17, 3) := by decide +kernel
theorem dX10_eyesOn_11 : decode cX10_eyesOn 11 = .ok (.aload_n 0, 1) := by decide +kernel
theorem dX10_eyesOn_12 : decode cX10_eyesOn 12 = .ok (.iload_n 1, 1) := by decide +kernel
theorem dX10_eyesOn_13 : decode cX10_eyesOn 13 = .ok (.iload_n 2, 1) := by decide +kernel
theorem dX10_eyesOn_14 : decode cX10_eyesOn 14 = .ok (.aload_n 0, 1) := by decide +kernel
theorem dX10_eyesOn_15 : decode cX10_eyesOn 15 = .ok (.getfield 66, 3) := by decide +kernel
theorem dX10_eyesOn_18 : decode cX10_eyesOn 18 = .ok (.iload_n 1, 1) := by decide +kernel
theorem dX10_eyesOn_19 : decode cX10_eyesOn 19 = .ok (.iconst 0, 1) := by decide +kernel
theorem dX10_eyesOn_20 : decode cX10_eyesOn 20 = .ok (.iadd, 1) := by decide +kernel
theorem dX10_eyesOn_21 : decode cX10_eyesOn 21 = .ok (.iaload, 1) := by decide +kernel
theorem dX10_eyesOn_22 : decode cX10_eyesOn 22 = .ok (.invokevirtual 306, 3) := by decide +kernel
theorem dX10_eyesOn_25 : decode cX10_eyesOn 25 = .ok (.ireturn, 1) := by decide +kernel
theorem dX10_shameOf_0 : decode cX10_shameOf 0 = .ok (.aload_n 0, 1) := by decide +kernel
theorem dX10_shameOf_1 : decode cX10_shameOf 1 = .ok (.getfield 66, 3) := by decide +kernel
theorem dX10_shameOf_4 : decode cX10_shameOf 4 = .ok (.iload_n 1, 1) := by decide +kernel
theorem dX10_shameOf_5 : decode cX10_shameOf 5 = .ok (.bipush 11, 2) := by decide +kernel
theorem dX10_shameOf_7 : decode cX10_shameOf 7 = .ok (.iadd, 1) := by decide +kernel
theorem dX10_shameOf_8 : decode cX10_shameOf 8 = .ok (.iload_n 2, 1) := by decide +kernel
theorem dX10_shameOf_9 : decode cX10_shameOf 9 = .ok (.iadd, 1) := by decide +kernel
theorem dX10_shameOf_10 : decode cX10_shameOf 10 = .ok (.iaload, 1) := by decide +kernel
theorem dX10_shameOf_11 : decode cX10_shameOf 11 = .ok (.istore_n 3, 1) := by decide +kernel
theorem dX10_shameOf_12 : decode cX10_shameOf 12 = .ok (.aload_n 0, 1) := by decide +kernel
theorem dX10_shameOf_13 : decode cX10_shameOf 13 = .ok (.iload_n 1, 1) := by decide +kernel
theorem dX10_shameOf_14 : decode cX10_shameOf 14 = .ok (.iload_n 3, 1) := by decide +kernel
theorem dX10_shameOf_15 : decode cX10_shameOf 15 = .ok (.invokevirtual 309, 3) := by decide +kernel
theorem dX10_shameOf_18 : decode cX10_shameOf 18 = .ok (.istore 4, 2) := by decide +kernel
theorem dX10_shameOf_20 : decode cX10_shameOf 20 = .ok (.aload_n 0, 1) := by decide +kernel
theorem dX10_shameOf_21 : decode cX10_shameOf 21 = .ok (.getfield 16, 3) := by decide +kernel
theorem dX10_shameOf_24 : decode cX10_shameOf 24 = .ok (.iconst (-1), 1) := by decide +kernel
theorem dX10_shameOf_25 : decode cX10_shameOf 25 = .ok (.if_icmp .ne 39, 3) := by decide +kernel
theorem dX10_shameOf_28 : decode cX10_shameOf 28 = .ok (.aload_n 0, 1) := by decide +kernel
theorem dX10_shameOf_29 : decode cX10_shameOf 29 = .ok (.getfield 66, 3) := by decide +kernel
theorem dX10_shameOf_32 : decode cX10_shameOf 32 = .ok (.iload_n 1, 1) := by decide +kernel
theorem dX10_shameOf_33 : decode cX10_shameOf 33 = .ok (.bipush 31, 2) := by decide +kernel
theorem dX10_shameOf_35 : decode cX10_shameOf 35 = .ok (.iadd, 1) := by decide +kernel
theorem dX10_shameOf_36 : decode cX10_shameOf 36 = .ok (.iload_n 2, 1) := by decide +kernel
theorem dX10_shameOf_37 : decode cX10_shameOf 37 = .ok (.iadd, 1) := by decide +kernel
theorem dX10_shameOf_38 : decode cX10_shameOf 38 = .ok (.iaload, 1) := by decide +kernel
theorem dX10_shameOf_39 : decode cX10_shameOf 39 = .ok (.iload 4, 2) := by decide +kernel
theorem dX10_shameOf_41 : decode cX10_shameOf 41 = .ok (.invokestatic 312, 3) := by decide +kernel
theorem dX10_shameOf_44 : decode cX10_shameOf 44 = .ok (.iadd, 1) := by decide +kernel
theorem dX10_shameOf_45 : decode cX10_shameOf 45 = .ok (.aload_n 0, 1) := by decide +kernel
theorem dX10_shameOf_46 : decode cX10_shameOf 46 = .ok (.getfield 66, 3) := by decide +kernel
theorem dX10_shameOf_49 : decode cX10_shameOf 49 = .ok (.iload_n 1, 1) := by decide +kernel
theorem dX10_shameOf_50 : decode cX10_shameOf 50 = .ok (.bipush 49, 2) := by decide +kernel
theorem dX10_shameOf_52 : decode cX10_shameOf 52 = .ok (.iadd, 1) := by decide +kernel
theorem dX10_shameOf_53 : decode cX10_shameOf 53 = .ok (.iload_n 3, 1) := by decide +kernel
theorem dX10_shameOf_54 : decode cX10_shameOf 54 = .ok (.iadd, 1) := by decide +kernel
theorem dX10_shameOf_55 : decode cX10_shameOf 55 = .ok (.iaload, 1) := by decide +kernel
theorem dX10_shameOf_56 : decode cX10_shameOf 56 = .ok (.isub, 1) := by decide +kernel
theorem dX10_shameOf_57 : decode cX10_shameOf 57 = .ok (.iconst 0, 1) := by decide +kernel
theorem dX10_shameOf_58 : decode cX10_shameOf 58 = .ok (.bipush 20, 2) := by decide +kernel
theorem dX10_shameOf_60 : decode cX10_shameOf 60 = .ok (.invokestatic 315, 3) := by decide +kernel
theorem dX10_shameOf_63 : decode cX10_shameOf 63 = .ok (.ireturn, 1) := by decide +kernel
theorem dX10_shameOf_64 : decode cX10_shameOf 64 = .ok (.aload_n 0, 1) := by decide +kernel
theorem dX10_shameOf_65 : decode cX10_shameOf 65 = .ok (.getfield 72, 3) := by decide +kernel
theorem dX10_shameOf_68 : decode cX10_shameOf 68 = .ok (.iconst 0, 1) := by decide +kernel
theorem dX10_shameOf_69 : decode cX10_shameOf 69 = .ok (.aload_n 0, 1) := by decide +kernel
theorem dX10_shameOf_70 : decode cX10_shameOf 70 = .ok (.getfield 66, 3) := by decide +kernel
theorem dX10_shameOf_73 : decode cX10_shameOf 73 = .ok (.iload_n 1, 1) := by decide +kernel
theorem dX10_shameOf_74 : decode cX10_shameOf 74 = .ok (.bipush 31, 2) := by decide +kernel
theorem dX10_shameOf_76 : decode cX10_shameOf 76 = .ok (.iadd, 1) := by decide +kernel
theorem dX10_shameOf_77 : decode cX10_shameOf 77 = .ok (.iload_n 2, 1) := by decide +kernel
theorem dX10_shameOf_78 : decode cX10_shameOf 78 = .ok (.iadd, 1) := by decide +kernel
theorem dX10_shameOf_79 : decode cX10_shameOf 79 = .ok (.iaload, 1) := by decide +kernel
theorem dX10_shameOf_80 : decode cX10_shameOf 80 = .ok (.iastore, 1) := by decide +kernel
theorem dX10_shameOf_81 : decode cX10_shameOf 81 = .ok (.aload_n 0, 1) := by decide +kernel
theorem dX10_shameOf_82 : decode cX10_shameOf 82 = .ok (.getfield 72, 3) := by decide +kernel
theorem dX10_shameOf_85 : decode cX10_shameOf 85 = .ok (.iconst 1, 1) := by decide +kernel
theorem dX10_shameOf_86 : decode cX10_shameOf 86 = .ok (.aload_n 0, 1) := by decide +kernel
theorem dX10_shameOf_87 : decode cX10_shameOf 87 = .ok (.getfield 26, 3) := by decide +kernel
theorem dX10_shameOf_90 : decode cX10_shameOf 90 = .ok (.iload_n 2, 1) := by decide +kernel
theorem dX10_shameOf_91 : decode cX10_shameOf 91 = .ok (.iaload, 1) := by decide +kernel
theorem dX10_shameOf_92 : decode cX10_shameOf 92 = .ok (.iastore, 1) := by decide +kernel
theorem dX10_shameOf_93 : decode cX10_shameOf 93 = .ok (.aload_n 0, 1) := by decide +kernel
theorem dX10_shameOf_94 : decode cX10_shameOf 94 = .ok (.getfield 72, 3) := by decide +kernel
theorem dX10_shameOf_97 : decode cX10_shameOf 97 = .ok (.iconst 2, 1) := by decide +kernel
theorem dX10_shameOf_98 : decode cX10_shameOf 98 = .ok (.aload_n 0, 1) := by decide +kernel
theorem dX10_shameOf_99 : decode cX10_shameOf 99 = .ok (.getfield 66, 3) := by decide +kernel
theorem dX10_shameOf_102 : decode cX10_shameOf 102 = .ok (.iload_n 1, 1) := by decide +kernel
theorem dX10_shameOf_103 : decode cX10_shameOf 103 = .ok (.bipush 21, 2) := by decide +kernel
theorem dX10_shameOf_105 : decode cX10_shameOf 105 = .ok (.iadd, 1) := by decide +kernel
theorem dX10_shameOf_106 : decode cX10_shameOf 106 = .ok (.iload_n 2, 1) := by decide +kernel
theorem dX10_shameOf_107 : decode cX10_shameOf 107 = .ok (.iadd, 1) := by decide +kernel
theorem dX10_shameOf_108 : decode cX10_shameOf 108 = .ok (.iaload, 1) := by decide +kernel
theorem dX10_shameOf_109 : decode cX10_shameOf 109 = .ok (.iastore, 1) := by decide +kernel
theorem dX10_shameOf_110 : decode cX10_shameOf 110 = .ok (.aload_n 0, 1) := by decide +kernel
theorem dX10_shameOf_111 : decode cX10_shameOf 111 = .ok (.getfield 72, 3) := by decide +kernel
theorem dX10_shameOf_114 : decode cX10_shameOf 114 = .ok (.iconst 3, 1) := by decide +kernel
theorem dX10_shameOf_115 : decode cX10_shameOf 115 = .ok (.iload 4, 2) := by decide +kernel
theorem dX10_shameOf_117 : decode cX10_shameOf 117 = .ok (.invokestatic 312, 3) := by decide +kernel
theorem dX10_shameOf_120 : decode cX10_shameOf 120 = .ok (.iastore, 1) := by decide +kernel
theorem dX10_shameOf_121 : decode cX10_shameOf 121 = .ok (.aload_n 0, 1) := by decide +kernel
theorem dX10_shameOf_122 : decode cX10_shameOf 122 = .ok (.getfield 72, 3) := by decide +kernel
theorem dX10_shameOf_125 : decode cX10_shameOf 125 = .ok (.iconst 4, 1) := by decide +kernel
theorem dX10_shameOf_126 : decode cX10_shameOf 126 = .ok (.iload 4, 2) := by decide +kernel
theorem dX10_shameOf_128 : decode cX10_shameOf 128 = .ok (.aload_n 0, 1) := by decide +kernel
theorem dX10_shameOf_129 : decode cX10_shameOf 129 = .ok (.getfield 66, 3) := by decide +kernel
theorem dX10_shameOf_132 : decode cX10_shameOf 132 = .ok (.iload_n 1, 1) := by decide +kernel
theorem dX10_shameOf_133 : decode cX10_shameOf 133 = .ok (.iconst 1, 1) := by decide +kernel
theorem dX10_shameOf_134 : decode cX10_shameOf 134 = .ok (.iadd, 1) := by decide +kernel
theorem dX10_shameOf_135 : decode cX10_shameOf 135 = .ok (.iload_n 2, 1) := by decide +kernel
theorem dX10_shameOf_136 : decode cX10_shameOf 136 = .ok (.iadd, 1) := by decide +kernel
theorem dX10_shameOf_137 : decode cX10_shameOf 137 = .ok (.iaload, 1) := by decide +kernel
theorem dX10_shameOf_138 : decode cX10_shameOf 138 = .ok (.ishr, 1) := by decide +kernel
theorem dX10_shameOf_139 : decode cX10_shameOf 139 = .ok (.iconst 1, 1) := by decide +kernel
theorem dX10_shameOf_140 : decode cX10_shameOf 140 = .ok (.iand, 1) := by decide +kernel
theorem dX10_shameOf_141 : decode cX10_shameOf 141 = .ok (.iastore, 1) := by decide +kernel
theorem dX10_shameOf_142 : decode cX10_shameOf 142 = .ok (.aload_n 0, 1) := by decide +kernel
theorem dX10_shameOf_143 : decode cX10_shameOf 143 = .ok (.getfield 72, 3) := by decide +kernel
theorem dX10_shameOf_146 : decode cX10_shameOf 146 = .ok (.iconst 5, 1) := by decide +kernel
theorem dX10_shameOf_147 : decode cX10_shameOf 147 = .ok (.aload_n 0, 1) := by decide +kernel
theorem dX10_shameOf_148 : decode cX10_shameOf 148 = .ok (.getfield 66, 3) := by decide +kernel
theorem dX10_shameOf_151 : decode cX10_shameOf 151 = .ok (.iload_n 1, 1) := by decide +kernel
theorem dX10_shameOf_152 : decode cX10_shameOf 152 = .ok (.bipush 49, 2) := by decide +kernel
theorem dX10_shameOf_154 : decode cX10_shameOf 154 = .ok (.iadd, 1) := by decide +kernel
theorem dX10_shameOf_155 : decode cX10_shameOf 155 = .ok (.iload_n 3, 1) := by decide +kernel
theorem dX10_shameOf_156 : decode cX10_shameOf 156 = .ok (.iadd, 1) := by decide +kernel
theorem dX10_shameOf_157 : decode cX10_shameOf 157 = .ok (.iaload, 1) := by decide +kernel
theorem dX10_shameOf_158 : decode cX10_shameOf 158 = .ok (.iastore, 1) := by decide +kernel
theorem dX10_shameOf_159 : decode cX10_shameOf 159 = .ok (.aload_n 0, 1) := by decide +kernel
theorem dX10_shameOf_160 : decode cX10_shameOf 160 = .ok (.getfield 72, 3) := by decide +kernel
theorem dX10_shameOf_163 : decode cX10_shameOf 163 = .ok (.bipush 6, 2) := by decide +kernel
theorem dX10_shameOf_165 : decode cX10_shameOf 165 = .ok (.aload_n 0, 1) := by decide +kernel
theorem dX10_shameOf_166 : decode cX10_shameOf 166 = .ok (.getfield 66, 3) := by decide +kernel
theorem dX10_shameOf_169 : decode cX10_shameOf 169 = .ok (.iload_n 1, 1) := by decide +kernel
theorem dX10_shameOf_170 : decode cX10_shameOf 170 = .ok (.iconst 0, 1) := by decide +kernel
theorem dX10_shameOf_171 : decode cX10_shameOf 171 = .ok (.iadd, 1) := by decide +kernel
theorem dX10_shameOf_172 : decode cX10_shameOf 172 = .ok (.iaload, 1) := by decide +kernel
theorem dX10_shameOf_173 : decode cX10_shameOf 173 = .ok (.iastore, 1) := by decide +kernel
theorem dX10_shameOf_174 : decode cX10_shameOf 174 = .ok (.aload_n 0, 1) := by decide +kernel
theorem dX10_shameOf_175 : decode cX10_shameOf 175 = .ok (.aload_n 0, 1) := by decide +kernel
theorem dX10_shameOf_176 : decode cX10_shameOf 176 = .ok (.getfield 16, 3) := by decide +kernel
theorem dX10_shameOf_179 : decode cX10_shameOf 179 = .ok (.invokevirtual 318, 3) := by decide +kernel
theorem dX10_shameOf_182 : decode cX10_shameOf 182 = .ok (.iconst 0, 1) := by decide +kernel
theorem dX10_shameOf_183 : decode cX10_shameOf 183 = .ok (.bipush 20, 2) := by decide +kernel
theorem dX10_shameOf_185 : decode cX10_shameOf 185 = .ok (.invokestatic 315, 3) := by decide +kernel
theorem dX10_shameOf_188 : decode cX10_shameOf 188 = .ok (.ireturn, 1) := by decide +kernel
theorem dX10_isOff_0 : decode cX10_isOff 0 = .ok (.aload_n 0, 1) := by decide +kernel
theorem dX10_isOff_1 : decode cX10_isOff 1 = .ok (.getfield 66, 3) := by decide +kernel
theorem dX10_isOff_4 : decode cX10_isOff 4 = .ok (.iload_n 1, 1) := by decide +kernel
theorem dX10_isOff_5 : decode cX10_isOff 5 = .ok (.bipush 11, 2) := by decide +kernel
theorem dX10_isOff_7 : decode cX10_isOff 7 = .ok (.iadd, 1) := by decide +kernel
theorem dX10_isOff_8 : decode cX10_isOff 8 = .ok (.iload_n 2, 1) := by decide +kernel
theorem dX10_isOff_9 : decode cX10_isOff 9 = .ok (.iadd, 1) := by decide +kernel
theorem dX10_isOff_10 : decode cX10_isOff 10 = .ok (.iconst (-1), 1) := by decide +kernel
theorem dX10_isOff_11 : decode cX10_isOff 11 = .ok (.iastore, 1) := by decide +kernel
theorem dX10_isOff_12 : decode cX10_isOff 12 = .ok (.aload_n 0, 1) := by decide +kernel
theorem dX10_isOff_13 : decode cX10_isOff 13 = .ok (.getfield 66, 3) := by decide +kernel
theorem dX10_isOff_16 : decode cX10_isOff 16 = .ok (.iload_n 1, 1) := by decide +kernel
theorem dX10_isOff_17 : decode cX10_isOff 17 = .ok (.bipush 21, 2) := by decide +kernel
theorem dX10_isOff_19 : decode cX10_isOff 19 = .ok (.iadd, 1) := by decide +kernel
theorem dX10_isOff_20 : decode cX10_isOff 20 = .ok (.iload_n 2, 1) := by decide +kernel
theorem dX10_isOff_21 : decode cX10_isOff 21 = .ok (.iadd, 1) := by decide +kernel
theorem dX10_isOff_22 : decode cX10_isOff 22 = .ok (.iconst 0, 1) := by decide +kernel
theorem dX10_isOff_23 : decode cX10_isOff 23 = .ok (.iastore, 1) := by decide +kernel
theorem dX10_isOff_24 : decode cX10_isOff 24 = .ok (.return_, 1) := by decide +kernel
theorem dX10_thingGoes_0 : decode cX10_thingGoes 0 = .ok (.aload_n 0, 1) := by decide +kernel
theorem dX10_thingGoes_1 : decode cX10_thingGoes 1 = .ok (.getfield 66, 3) := by decide +kernel
theorem dX10_thingGoes_4 : decode cX10_thingGoes 4 = .ok (.iload_n 1, 1) := by decide +kernel
theorem dX10_thingGoes_5 : decode cX10_thingGoes 5 = .ok (.bipush 11, 2) := by decide +kernel
theorem dX10_thingGoes_7 : decode cX10_thingGoes 7 = .ok (.iadd, 1) := by decide +kernel
theorem dX10_thingGoes_8 : decode cX10_thingGoes 8 = .ok (.iload_n 2, 1) := by decide +kernel
theorem dX10_thingGoes_9 : decode cX10_thingGoes 9 = .ok (.iadd, 1) := by decide +kernel
theorem dX10_thingGoes_10 : decode cX10_thingGoes 10 = .ok (.iaload, 1) := by decide +kernel
theorem dX10_thingGoes_11 : decode cX10_thingGoes 11 = .ok (.istore_n 3, 1) := by decide +kernel
theorem dX10_thingGoes_12 : decode cX10_thingGoes 12 = .ok (.aload_n 0, 1) := by decide +kernel
theorem dX10_thingGoes_13 : decode cX10_thingGoes 13 = .ok (.getfield 66, 3) := by decide +kernel
theorem dX10_thingGoes_16 : decode cX10_thingGoes 16 = .ok (.iload_n 1, 1) := by decide +kernel
theorem dX10_thingGoes_17 : decode cX10_thingGoes 17 = .ok (.bipush 41, 2) := by decide +kernel
theorem dX10_thingGoes_19 : decode cX10_thingGoes 19 = .ok (.iadd, 1) := by decide +kernel
theorem dX10_thingGoes_20 : decode cX10_thingGoes 20 = .ok (.iload_n 3, 1) := by decide +kernel
theorem dX10_thingGoes_21 : decode cX10_thingGoes 21 = .ok (.iadd, 1) := by decide +kernel
theorem dX10_thingGoes_22 : decode cX10_thingGoes 22 = .ok (.bipush 99, 2) := by decide +kernel
theorem dX10_thingGoes_24 : decode cX10_thingGoes 24 = .ok (.aload_n 0, 1) := by decide +kernel
theorem dX10_thingGoes_25 : decode cX10_thingGoes 25 = .ok (.getfield 66, 3) := by decide +kernel
theorem dX10_thingGoes_28 : decode cX10_thingGoes 28 = .ok (.iload_n 1, 1) := by decide +kernel
theorem dX10_thingGoes_29 : decode cX10_thingGoes 29 = .ok (.bipush 41, 2) := by decide +kernel
theorem dX10_thingGoes_31 : decode cX10_thingGoes 31 = .ok (.iadd, 1) := by decide +kernel
theorem dX10_thingGoes_32 : decode cX10_thingGoes 32 = .ok (.iload_n 3, 1) := by decide +kernel
theorem dX10_thingGoes_33 : decode cX10_thingGoes 33 = .ok (.iadd, 1) := by decide +kernel
theorem dX10_thingGoes_34 : decode cX10_thingGoes 34 = .ok (.iaload, 1) := by decide +kernel
theorem dX10_thingGoes_35 : decode cX10_thingGoes 35 = .ok (.aload_n 0, 1) := by decide +kernel
theorem dX10_thingGoes_36 : decode cX10_thingGoes 36 = .ok (.iload_n 1, 1) := by decide +kernel
theorem dX10_thingGoes_37 : decode cX10_thingGoes 37 = .ok (.iload_n 2, 1) := by decide +kernel
theorem dX10_thingGoes_38 : decode cX10_thingGoes 38 = .ok (.invokevirtual 321, 3) := by decide +kernel
theorem dX10_thingGoes_41 : decode cX10_thingGoes 41 = .ok (.iadd, 1) := by decide +kernel
theorem dX10_thingGoes_42 : decode cX10_thingGoes 42 = .ok (.invokestatic 324, 3) := by decide +kernel
theorem dX10_thingGoes_45 : decode cX10_thingGoes 45 = .ok (.iastore, 1) := by decide +kernel
theorem dX10_thingGoes_46 : decode cX10_thingGoes 46 = .ok (.aload_n 0, 1) := by decide +kernel
theorem dX10_thingGoes_47 : decode cX10_thingGoes 47 = .ok (.iload_n 1, 1) := by decide +kernel
theorem dX10_thingGoes_48 : decode cX10_thingGoes 48 = .ok (.iload_n 3, 1) := by decide +kernel
theorem dX10_thingGoes_49 : decode cX10_thingGoes 49 = .ok (.invokevirtual 309, 3) := by decide +kernel
theorem dX10_thingGoes_52 : decode cX10_thingGoes 52 = .ok (.ifCond .ne 4, 3) := by decide +kernel
theorem dX10_thingGoes_55 : decode cX10_thingGoes 55 = .ok (.return_, 1) := by decide +kernel
theorem dX10_thingGoes_56 : decode cX10_thingGoes 56 = .ok (.aload_n 0, 1) := by decide +kernel
theorem dX10_thingGoes_57 : decode cX10_thingGoes 57 = .ok (.getfield 66, 3) := by decide +kernel
theorem dX10_thingGoes_60 : decode cX10_thingGoes 60 = .ok (.iload_n 1, 1) := by decide +kernel
theorem dX10_thingGoes_61 : decode cX10_thingGoes 61 = .ok (.bipush 21, 2) := by decide +kernel
theorem dX10_thingGoes_63 : decode cX10_thingGoes 63 = .ok (.iadd, 1) := by decide +kernel
theorem dX10_thingGoes_64 : decode cX10_thingGoes 64 = .ok (.iload_n 2, 1) := by decide +kernel
theorem dX10_thingGoes_65 : decode cX10_thingGoes 65 = .ok (.iadd, 1) := by decide +kernel
theorem dX10_thingGoes_66 : decode cX10_thingGoes 66 = .ok (.dup2, 1) := by decide +kernel
theorem dX10_thingGoes_67 : decode cX10_thingGoes 67 = .ok (.iaload, 1) := by decide +kernel
theorem dX10_thingGoes_68 : decode cX10_thingGoes 68 = .ok (.iconst 1, 1) := by decide +kernel
theorem dX10_thingGoes_69 : decode cX10_thingGoes 69 = .ok (.iadd, 1) := by decide +kernel
theorem dX10_thingGoes_70 : decode cX10_thingGoes 70 = .ok (.iastore, 1) := by decide +kernel
theorem dX10_thingGoes_71 : decode cX10_thingGoes 71 = .ok (.aload_n 0, 1) := by decide +kernel
theorem dX10_thingGoes_72 : decode cX10_thingGoes 72 = .ok (.getfield 66, 3) := by decide +kernel
theorem dX10_thingGoes_75 : decode cX10_thingGoes 75 = .ok (.iload_n 1, 1) := by decide +kernel
theorem dX10_thingGoes_76 : decode cX10_thingGoes 76 = .ok (.bipush 21, 2) := by decide +kernel
theorem dX10_thingGoes_78 : decode cX10_thingGoes 78 = .ok (.iadd, 1) := by decide +kernel
theorem dX10_thingGoes_79 : decode cX10_thingGoes 79 = .ok (.iload_n 2, 1) := by decide +kernel
theorem dX10_thingGoes_80 : decode cX10_thingGoes 80 = .ok (.iadd, 1) := by decide +kernel
theorem dX10_thingGoes_81 : decode cX10_thingGoes 81 = .ok (.iaload, 1) := by decide +kernel
theorem dX10_thingGoes_82 : decode cX10_thingGoes 82 = .ok (.aload_n 0, 1) := by decide +kernel
theorem dX10_thingGoes_83 : decode cX10_thingGoes 83 = .ok (.getfield 13, 3) := by decide +kernel
theorem dX10_thingGoes_86 : decode cX10_thingGoes 86 = .ok (.if_icmp .ge 4, 3) := by decide +kernel
theorem dX10_thingGoes_89 : decode cX10_thingGoes 89 = .ok (.return_, 1) := by decide +kernel
theorem dX10_thingGoes_90 : decode cX10_thingGoes 90 = .ok (.aload_n 0, 1) := by decide +kernel
theorem dX10_thingGoes_91 : decode cX10_thingGoes 91 = .ok (.getfield 66, 3) := by decide +kernel
theorem dX10_thingGoes_94 : decode cX10_thingGoes 94 = .ok (.iload_n 1, 1) := by decide +kernel
theorem dX10_thingGoes_95 : decode cX10_thingGoes 95 = .ok (.iconst 1, 1) := by decide +kernel
theorem dX10_thingGoes_96 : decode cX10_thingGoes 96 = .ok (.iadd, 1) := by decide +kernel
theorem dX10_thingGoes_97 : decode cX10_thingGoes 97 = .ok (.iload_n 2, 1) := by decide +kernel
theorem dX10_thingGoes_98 : decode cX10_thingGoes 98 = .ok (.iadd, 1) := by decide +kernel
theorem dX10_thingGoes_99 : decode cX10_thingGoes 99 = .ok (.iload_n 3, 1) := by decide +kernel
theorem dX10_thingGoes_100 : decode cX10_thingGoes 100 = .ok (.iastore, 1) := by decide +kernel
theorem dX10_thingGoes_101 : decode cX10_thingGoes 101 = .ok (.aload_n 0, 1) := by decide +kernel
theorem dX10_thingGoes_102 : decode cX10_thingGoes 102 = .ok (.iload_n 1, 1) := by decide +kernel
theorem dX10_thingGoes_103 : decode cX10_thingGoes 103 = .ok (.iload_n 2, 1) := by decide +kernel
theorem dX10_thingGoes_104 : decode cX10_thingGoes 104 = .ok (.invokevirtual 327, 3) := by decide +kernel
theorem dX10_thingGoes_107 : decode cX10_thingGoes 107 = .ok (.aload_n 0, 1) := by decide +kernel
theorem dX10_thingGoes_108 : decode cX10_thingGoes 108 = .ok (.dup, 1) := by decide +kernel
theorem dX10_thingGoes_109 : decode cX10_thingGoes 109 = .ok (.getfield 330, 3) := by decide +kernel
theorem dX10_thingGoes_112 : decode cX10_thingGoes 112 = .ok (.iconst 1, 1) := by decide +kernel
theorem dX10_thingGoes_113 : decode cX10_thingGoes 113 = .ok (.iadd, 1) := by decide +kernel
theorem dX10_thingGoes_114 : decode cX10_thingGoes 114 = .ok (.putfield 330, 3) := by decide +kernel
theorem dX10_thingGoes_117 : decode cX10_thingGoes 117 = .ok (.return_, 1) := by decide +kernel
theorem dX10_returns0_0 : decode cX10_returns0 0 = .ok (.aload_n 0, 1) := by decide +kernel
theorem dX10_returns0_1 : decode cX10_returns0 1 = .ok (.getfield 19, 3) := by decide +kernel
theorem dX10_returns0_4 : decode cX10_returns0 4 = .ok (.iconst (-1), 1) := by decide +kernel
theorem dX10_returns0_5 : decode cX10_returns0 5 = .ok (.if_icmp .ne 25, 3) := by decide +kernel
theorem dX10_returns0_8 : decode cX10_returns0 8 = .ok (.aload_n 0, 1) := by decide +kernel
theorem dX10_returns0_9 : decode cX10_returns0 9 = .ok (.getfield 66, 3) := by decide +kernel
theorem dX10_returns0_12 : decode cX10_returns0 12 = .ok (.iload_n 1, 1) := by decide +kernel
theorem dX10_returns0_13 : decode cX10_returns0 13 = .ok (.bipush 41, 2) := by decide +kernel
theorem dX10_returns0_15 : decode cX10_returns0 15 = .ok (.iadd, 1) := by decide +kernel
theorem dX10_returns0_16 : decode cX10_returns0 16 = .ok (.iload_n 2, 1) := by decide +kernel
theorem dX10_returns0_17 : decode cX10_returns0 17 = .ok (.iadd, 1) := by decide +kernel
theorem dX10_returns0_18 : decode cX10_returns0 18 = .ok (.iaload, 1) := by decide +kernel
theorem dX10_returns0_19 : decode cX10_returns0 19 = .ok (.bipush 40, 2) := by decide +kernel
theorem dX10_returns0_21 : decode cX10_returns0 21 = .ok (.if_icmp .lt 7, 3) := by decide +kernel
theorem dX10_returns0_24 : decode cX10_returns0 24 = .ok (.iconst 1, 1) := by decide +kernel
theorem dX10_returns0_25 : decode cX10_returns0 25 = .ok (.goto 4, 3) := by decide +kernel
theorem dX10_returns0_28 : decode cX10_returns0 28 = .ok (.iconst 0, 1) := by decide +kernel
theorem dX10_returns0_29 : decode cX10_returns0 29 = .ok (.ireturn, 1) := by decide +kernel
theorem dX10_returns0_30 : decode cX10_returns0 30 = .ok (.aload_n 0, 1) := by decide +kernel
theorem dX10_returns0_31 : decode cX10_returns0 31 = .ok (.getfield 72, 3) := by decide +kernel
theorem dX10_returns0_34 : decode cX10_returns0 34 = .ok (.bipush 7, 2) := by decide +kernel
theorem dX10_returns0_36 : decode cX10_returns0 36 = .ok (.aload_n 0, 1) := by decide +kernel
theorem dX10_returns0_37 : decode cX10_returns0 37 = .ok (.getfield 66, 3) := by decide +kernel
theorem dX10_returns0_40 : decode cX10_returns0 40 = .ok (.iload_n 1, 1) := by decide +kernel
theorem dX10_returns0_41 : decode cX10_returns0 41 = .ok (.bipush 41, 2) := by decide +kernel
theorem dX10_returns0_43 : decode cX10_returns0 43 = .ok (.iadd, 1) := by decide +kernel
theorem dX10_returns0_44 : decode cX10_returns0 44 = .ok (.iload_n 2, 1) := by decide +kernel
theorem dX10_returns0_45 : decode cX10_returns0 45 = .ok (.iadd, 1) := by decide +kernel
theorem dX10_returns0_46 : decode cX10_returns0 46 = .ok (.iaload, 1) := by decide +kernel
theorem dX10_returns0_47 : decode cX10_returns0 47 = .ok (.iastore, 1) := by decide +kernel
theorem dX10_returns0_48 : decode cX10_returns0 48 = .ok (.aload_n 0, 1) := by decide +kernel
theorem dX10_returns0_49 : decode cX10_returns0 49 = .ok (.getfield 72, 3) := by decide +kernel
theorem dX10_returns0_52 : decode cX10_returns0 52 = .ok (.iconst 5, 1) := by decide +kernel
theorem dX10_returns0_53 : decode cX10_returns0 53 = .ok (.aload_n 0, 1) := by decide +kernel
theorem dX10_returns0_54 : decode cX10_returns0 54 = .ok (.getfield 66, 3) := by decide +kernel
theorem dX10_returns0_57 : decode cX10_returns0 57 = .ok (.iload_n 1, 1) := by decide +kernel
theorem dX10_returns0_58 : decode cX10_returns0 58 = .ok (.bipush 49, 2) := by decide +kernel
theorem dX10_returns0_60 : decode cX10_returns0 60 = .ok (.iadd, 1) := by decide +kernel
theorem dX10_returns0_61 : decode cX10_returns0 61 = .ok (.iload_n 2, 1) := by decide +kernel
theorem dX10_returns0_62 : decode cX10_returns0 62 = .ok (.iadd, 1) := by decide +kernel
theorem dX10_returns0_63 : decode cX10_returns0 63 = .ok (.iaload, 1) := by decide +kernel
theorem dX10_returns0_64 : decode cX10_returns0 64 = .ok (.iastore, 1) := by decide +kernel
theorem dX10_returns0_65 : decode cX10_returns0 65 = .ok (.aload_n 0, 1) := by decide +kernel
theorem dX10_returns0_66 : decode cX10_returns0 66 = .ok (.getfield 72, 3) := by decide +kernel
theorem dX10_returns0_69 : decode cX10_returns0 69 = .ok (.bipush 8, 2) := by decide +kernel
theorem dX10_returns0_71 : decode cX10_returns0 71 = .ok (.aload_n 0, 1) := by decide +kernel
theorem dX10_returns0_72 : decode cX10_returns0 72 = .ok (.iload_n 1, 1) := by decide +kernel
theorem dX10_returns0_73 : decode cX10_returns0 73 = .ok (.iload_n 2, 1) := by decide +kernel
theorem dX10_returns0_74 : decode cX10_returns0 74 = .ok (.invokevirtual 300, 3) := by decide +kernel
theorem dX10_returns0_77 : decode cX10_returns0 77 = .ok (.invokestatic 312, 3) := by decide +kernel
theorem dX10_returns0_80 : decode cX10_returns0 80 = .ok (.iastore, 1) := by decide +kernel
theorem dX10_returns0_81 : decode cX10_returns0 81 = .ok (.aload_n 0, 1) := by decide +kernel
theorem dX10_returns0_82 : decode cX10_returns0 82 = .ok (.getfield 72, 3) := by decide +kernel
theorem dX10_returns0_85 : decode cX10_returns0 85 = .ok (.bipush 6, 2) := by decide +kernel
theorem dX10_returns0_87 : decode cX10_returns0 87 = .ok (.aload_n 0, 1) := by decide +kernel
theorem dX10_returns0_88 : decode cX10_returns0 88 = .ok (.getfield 66, 3) := by decide +kernel
theorem dX10_returns0_91 : decode cX10_returns0 91 = .ok (.iload_n 1, 1) := by decide +kernel
theorem dX10_returns0_92 : decode cX10_returns0 92 = .ok (.iconst 0, 1) := by decide +kernel
theorem dX10_returns0_93 : decode cX10_returns0 93 = .ok (.iadd, 1) := by decide +kernel
theorem dX10_returns0_94 : decode cX10_returns0 94 = .ok (.iaload, 1) := by decide +kernel
theorem dX10_returns0_95 : decode cX10_returns0 95 = .ok (.iastore, 1) := by decide +kernel
theorem dX10_returns0_96 : decode cX10_returns0 96 = .ok (.aload_n 0, 1) := by decide +kernel
theorem dX10_returns0_97 : decode cX10_returns0 97 = .ok (.aload_n 0, 1) := by decide +kernel
theorem dX10_returns0_98 : decode cX10_returns0 98 = .ok (.getfield 19, 3) := by decide +kernel
theorem dX10_returns0_101 : decode cX10_returns0 101 = .ok (.invokevirtual 318, 3) := by decide +kernel
theorem dX10_returns0_104 : decode cX10_returns0 104 = .ok (.ifCond .le 7, 3) := by decide +kernel
theorem dX10_returns0_107 : decode cX10_returns0 107 = .ok (.iconst 1, 1) := by decide +kernel
theorem dX10_returns0_108 : decode cX10_returns0 108 = .ok (.goto 4, 3) := by decide +kernel
theorem dX10_returns0_111 : decode cX10_returns0 111 = .ok (.iconst 0, 1) := by decide +kernel
theorem dX10_returns0_112 : decode cX10_returns0 112 = .ok (.ireturn, 1) := by decide +kernel
theorem dX10_givesAll_0 : decode cX10_givesAll 0 = .ok (.iconst 0, 1) := by decide +kernel
theorem dX10_givesAll_1 : decode cX10_givesAll 1 = .ok (.istore_n 3, 1) := by decide +kernel
theorem dX10_givesAll_2 : decode cX10_givesAll 2 = .ok (.iload_n 3, 1) := by decide +kernel
theorem dX10_givesAll_3 : decode cX10_givesAll 3 = .ok (.aload_n 0, 1) := by decide +kernel
theorem dX10_givesAll_4 : decode cX10_givesAll 4 = .ok (.getfield 276, 3) := by decide +kernel
theorem dX10_givesAll_7 : decode cX10_givesAll 7 = .ok (.if_icmp .ge 30, 3) := by decide +kernel
theorem dX10_givesAll_10 : decode cX10_givesAll 10 = .ok (.aload_n 0, 1) := by decide +kernel
theorem dX10_givesAll_11 : decode cX10_givesAll 11 = .ok (.getfield 66, 3) := by decide +kernel
theorem dX10_givesAll_14 : decode cX10_givesAll 14 = .ok (.iload_n 1, 1) := by decide +kernel
theorem dX10_givesAll_15 : decode cX10_givesAll 15 = .ok (.bipush 11, 2) := by decide +kernel
theorem dX10_givesAll_17 : decode cX10_givesAll 17 = .ok (.iadd, 1) := by decide +kernel
theorem dX10_givesAll_18 : decode cX10_givesAll 18 = .ok (.iload_n 3, 1) := by decide +kernel
theorem dX10_givesAll_19 : decode cX10_givesAll 19 = .ok (.iadd, 1) := by decide +kernel
theorem dX10_givesAll_20 : decode cX10_givesAll 20 = .ok (.iaload, 1) := by decide +kernel
theorem dX10_givesAll_21 : decode cX10_givesAll 21 = .ok (.iload_n 2, 1) := by decide +kernel
theorem dX10_givesAll_22 : decode cX10_givesAll 22 = .ok (.if_icmp .ne 9, 3) := by decide +kernel
theorem dX10_givesAll_25 : decode cX10_givesAll 25 = .ok (.aload_n 0, 1) := by decide +kernel
theorem dX10_givesAll_26 : decode cX10_givesAll 26 = .ok (.iload_n 1, 1) := by decide +kernel
theorem dX10_givesAll_27 : decode cX10_givesAll 27 = .ok (.iload_n 3, 1) := by decide +kernel
theorem dX10_givesAll_28 : decode cX10_givesAll 28 = .ok (.invokevirtual 327, 3) := by decide +kernel
theorem dX10_givesAll_31 : decode cX10_givesAll 31 = .ok (.iinc 3 1, 3) := by decide +kernel
theorem dX10_givesAll_34 : decode cX10_givesAll 34 = .ok (.goto (-32), 3) := by decide +kernel
theorem dX10_givesAll_37 : decode cX10_givesAll 37 = .ok (.return_, 1) := by decide +kernel
theorem dX10_dayGoes_0 : decode cX10_dayGoes 0 = .ok (.aload_n 0, 1) := by decide +kernel
theorem dX10_dayGoes_1 : decode cX10_dayGoes 1 = .ok (.iconst 0, 1) := by decide +kernel
theorem dX10_dayGoes_2 : decode cX10_dayGoes 2 = .ok (.putfield 330, 3) := by decide +kernel
theorem dX10_dayGoes_5 : decode cX10_dayGoes 5 = .ok (.iconst 0, 1) := by decide +kernel
theorem dX10_dayGoes_6 : decode cX10_dayGoes 6 = .ok (.istore_n 2, 1) := by decide +kernel
theorem dX10_dayGoes_7 : decode cX10_dayGoes 7 = .ok (.iload_n 2, 1) := by decide +kernel
theorem dX10_dayGoes_8 : decode cX10_dayGoes 8 = .ok (.aload_n 0, 1) := by decide +kernel
theorem dX10_dayGoes_9 : decode cX10_dayGoes 9 = .ok (.getfield 276, 3) := by decide +kernel
theorem dX10_dayGoes_12 : decode cX10_dayGoes 12 = .ok (.if_icmp .ge 30, 3) := by decide +kernel
theorem dX10_dayGoes_15 : decode cX10_dayGoes 15 = .ok (.aload_n 0, 1) := by decide +kernel
theorem dX10_dayGoes_16 : decode cX10_dayGoes 16 = .ok (.getfield 66, 3) := by decide +kernel
theorem dX10_dayGoes_19 : decode cX10_dayGoes 19 = .ok (.iload_n 1, 1) := by decide +kernel
theorem dX10_dayGoes_20 : decode cX10_dayGoes 20 = .ok (.bipush 11, 2) := by decide +kernel
theorem dX10_dayGoes_22 : decode cX10_dayGoes 22 = .ok (.iadd, 1) := by decide +kernel
theorem dX10_dayGoes_23 : decode cX10_dayGoes 23 = .ok (.iload_n 2, 1) := by decide +kernel
theorem dX10_dayGoes_24 : decode cX10_dayGoes 24 = .ok (.iadd, 1) := by decide +kernel
theorem dX10_dayGoes_25 : decode cX10_dayGoes 25 = .ok (.iaload, 1) := by decide +kernel
theorem dX10_dayGoes_26 : decode cX10_dayGoes 26 = .ok (.iconst (-1), 1) := by decide +kernel
theorem dX10_dayGoes_27 : decode cX10_dayGoes 27 = .ok (.if_icmp .eq 9, 3) := by decide +kernel
theorem dX10_dayGoes_30 : decode cX10_dayGoes 30 = .ok (.aload_n 0, 1) := by decide +kernel
theorem dX10_dayGoes_31 : decode cX10_dayGoes 31 = .ok (.iload_n 1, 1) := by decide +kernel
theorem dX10_dayGoes_32 : decode cX10_dayGoes 32 = .ok (.iload_n 2, 1) := by decide +kernel
theorem dX10_dayGoes_33 : decode cX10_dayGoes 33 = .ok (.invokevirtual 333, 3) := by decide +kernel
theorem dX10_dayGoes_36 : decode cX10_dayGoes 36 = .ok (.iinc 2 1, 3) := by decide +kernel
theorem dX10_dayGoes_39 : decode cX10_dayGoes 39 = .ok (.goto (-32), 3) := by decide +kernel
theorem dX10_dayGoes_42 : decode cX10_dayGoes 42 = .ok (.iconst 0, 1) := by decide +kernel
theorem dX10_dayGoes_43 : decode cX10_dayGoes 43 = .ok (.istore_n 2, 1) := by decide +kernel
theorem dX10_dayGoes_44 : decode cX10_dayGoes 44 = .ok (.iload_n 2, 1) := by decide +kernel
theorem dX10_dayGoes_45 : decode cX10_dayGoes 45 = .ok (.aload_n 0, 1) := by decide +kernel
theorem dX10_dayGoes_46 : decode cX10_dayGoes 46 = .ok (.getfield 273, 3) := by decide +kernel
theorem dX10_dayGoes_49 : decode cX10_dayGoes 49 = .ok (.if_icmp .ge 48, 3) := by decide +kernel
theorem dX10_dayGoes_52 : decode cX10_dayGoes 52 = .ok (.aload_n 0, 1) := by decide +kernel
theorem dX10_dayGoes_53 : decode cX10_dayGoes 53 = .ok (.iload_n 1, 1) := by decide +kernel
theorem dX10_dayGoes_54 : decode cX10_dayGoes 54 = .ok (.iload_n 2, 1) := by decide +kernel
theorem dX10_dayGoes_55 : decode cX10_dayGoes 55 = .ok (.invokevirtual 300, 3) := by decide +kernel
theorem dX10_dayGoes_58 : decode cX10_dayGoes 58 = .ok (.ifCond .eq 33, 3) := by decide +kernel
theorem dX10_dayGoes_61 : decode cX10_dayGoes 61 = .ok (.aload_n 0, 1) := by decide +kernel
theorem dX10_dayGoes_62 : decode cX10_dayGoes 62 = .ok (.iload_n 1, 1) := by decide +kernel
theorem dX10_dayGoes_63 : decode cX10_dayGoes 63 = .ok (.iload_n 2, 1) := by decide +kernel
theorem dX10_dayGoes_64 : decode cX10_dayGoes 64 = .ok (.invokevirtual 336, 3) := by decide +kernel
theorem dX10_dayGoes_67 : decode cX10_dayGoes 67 = .ok (.ifCond .ne 6, 3) := by decide +kernel
theorem dX10_dayGoes_70 : decode cX10_dayGoes 70 = .ok (.goto 21, 3) := by decide +kernel
theorem dX10_dayGoes_73 : decode cX10_dayGoes 73 = .ok (.aload_n 0, 1) := by decide +kernel
theorem dX10_dayGoes_74 : decode cX10_dayGoes 74 = .ok (.iload_n 1, 1) := by decide +kernel
theorem dX10_dayGoes_75 : decode cX10_dayGoes 75 = .ok (.iload_n 2, 1) := by decide +kernel
theorem dX10_dayGoes_76 : decode cX10_dayGoes 76 = .ok (.invokevirtual 340, 3) := by decide +kernel
theorem dX10_dayGoes_79 : decode cX10_dayGoes 79 = .ok (.aload_n 0, 1) := by decide +kernel
theorem dX10_dayGoes_80 : decode cX10_dayGoes 80 = .ok (.getfield 66, 3) := by decide +kernel
theorem dX10_dayGoes_83 : decode cX10_dayGoes 83 = .ok (.iload_n 1, 1) := by decide +kernel
theorem dX10_dayGoes_84 : decode cX10_dayGoes 84 = .ok (.bipush 41, 2) := by decide +kernel
theorem dX10_dayGoes_86 : decode cX10_dayGoes 86 = .ok (.iadd, 1) := by decide +kernel
theorem dX10_dayGoes_87 : decode cX10_dayGoes 87 = .ok (.iload_n 2, 1) := by decide +kernel
theorem dX10_dayGoes_88 : decode cX10_dayGoes 88 = .ok (.iadd, 1) := by decide +kernel
theorem dX10_dayGoes_89 : decode cX10_dayGoes 89 = .ok (.iconst 0, 1) := by decide +kernel
theorem dX10_dayGoes_90 : decode cX10_dayGoes 90 = .ok (.iastore, 1) := by decide +kernel
theorem dX10_dayGoes_91 : decode cX10_dayGoes 91 = .ok (.iinc 2 1, 3) := by decide +kernel
theorem dX10_dayGoes_94 : decode cX10_dayGoes 94 = .ok (.goto (-50), 3) := by decide +kernel
theorem dX10_dayGoes_97 : decode cX10_dayGoes 97 = .ok (.iconst 0, 1) := by decide +kernel
theorem dX10_dayGoes_98 : decode cX10_dayGoes 98 = .ok (.istore_n 2, 1) := by decide +kernel
theorem dX10_dayGoes_99 : decode cX10_dayGoes 99 = .ok (.iload_n 2, 1) := by decide +kernel
theorem dX10_dayGoes_100 : decode cX10_dayGoes 100 = .ok (.aload_n 0, 1) := by decide +kernel
theorem dX10_dayGoes_101 : decode cX10_dayGoes 101 = .ok (.getfield 273, 3) := by decide +kernel
theorem dX10_dayGoes_104 : decode cX10_dayGoes 104 = .ok (.if_icmp .ge 48, 3) := by decide +kernel
theorem dX10_dayGoes_107 : decode cX10_dayGoes 107 = .ok (.aload_n 0, 1) := by decide +kernel
theorem dX10_dayGoes_108 : decode cX10_dayGoes 108 = .ok (.iload_n 1, 1) := by decide +kernel
theorem dX10_dayGoes_109 : decode cX10_dayGoes 109 = .ok (.iload_n 2, 1) := by decide +kernel
theorem dX10_dayGoes_110 : decode cX10_dayGoes 110 = .ok (.invokevirtual 300, 3) := by decide +kernel
theorem dX10_dayGoes_113 : decode cX10_dayGoes 113 = .ok (.ifCond .ne 33, 3) := by decide +kernel
theorem dX10_dayGoes_116 : decode cX10_dayGoes 116 = .ok (.aload_n 0, 1) := by decide +kernel
theorem dX10_dayGoes_117 : decode cX10_dayGoes 117 = .ok (.getfield 66, 3) := by decide +kernel
theorem dX10_dayGoes_120 : decode cX10_dayGoes 120 = .ok (.iload_n 1, 1) := by decide +kernel
theorem dX10_dayGoes_121 : decode cX10_dayGoes 121 = .ok (.bipush 41, 2) := by decide +kernel
theorem dX10_dayGoes_123 : decode cX10_dayGoes 123 = .ok (.iadd, 1) := by decide +kernel
theorem dX10_dayGoes_124 : decode cX10_dayGoes 124 = .ok (.iload_n 2, 1) := by decide +kernel
theorem dX10_dayGoes_125 : decode cX10_dayGoes 125 = .ok (.iadd, 1) := by decide +kernel
theorem dX10_dayGoes_126 : decode cX10_dayGoes 126 = .ok (.aload_n 0, 1) := by decide +kernel
theorem dX10_dayGoes_127 : decode cX10_dayGoes 127 = .ok (.getfield 66, 3) := by decide +kernel
theorem dX10_dayGoes_130 : decode cX10_dayGoes 130 = .ok (.iload_n 1, 1) := by decide +kernel
theorem dX10_dayGoes_131 : decode cX10_dayGoes 131 = .ok (.bipush 41, 2) := by decide +kernel
theorem dX10_dayGoes_133 : decode cX10_dayGoes 133 = .ok (.iadd, 1) := by decide +kernel
theorem dX10_dayGoes_134 : decode cX10_dayGoes 134 = .ok (.iload_n 2, 1) := by decide +kernel
theorem dX10_dayGoes_135 : decode cX10_dayGoes 135 = .ok (.iadd, 1) := by decide +kernel
theorem dX10_dayGoes_136 : decode cX10_dayGoes 136 = .ok (.iaload, 1) := by decide +kernel
theorem dX10_dayGoes_137 : decode cX10_dayGoes 137 = .ok (.iconst 2, 1) := by decide +kernel
theorem dX10_dayGoes_138 : decode cX10_dayGoes 138 = .ok (.isub, 1) := by decide +kernel
theorem dX10_dayGoes_139 : decode cX10_dayGoes 139 = .ok (.iconst 0, 1) := by decide +kernel
theorem dX10_dayGoes_140 : decode cX10_dayGoes 140 = .ok (.bipush 99, 2) := by decide +kernel
theorem dX10_dayGoes_142 : decode cX10_dayGoes 142 = .ok (.invokestatic 315, 3) := by decide +kernel
theorem dX10_dayGoes_145 : decode cX10_dayGoes 145 = .ok (.iastore, 1) := by decide +kernel
theorem dX10_dayGoes_146 : decode cX10_dayGoes 146 = .ok (.iinc 2 1, 3) := by decide +kernel
theorem dX10_dayGoes_149 : decode cX10_dayGoes 149 = .ok (.goto (-50), 3) := by decide +kernel
theorem dX10_dayGoes_152 : decode cX10_dayGoes 152 = .ok (.aload_n 0, 1) := by decide +kernel
theorem dX10_dayGoes_153 : decode cX10_dayGoes 153 = .ok (.getfield 66, 3) := by decide +kernel
theorem dX10_dayGoes_156 : decode cX10_dayGoes 156 = .ok (.iload_n 1, 1) := by decide +kernel
theorem dX10_dayGoes_157 : decode cX10_dayGoes 157 = .ok (.iconst 0, 1) := by decide +kernel
theorem dX10_dayGoes_158 : decode cX10_dayGoes 158 = .ok (.iadd, 1) := by decide +kernel
theorem dX10_dayGoes_159 : decode cX10_dayGoes 159 = .ok (.dup2, 1) := by decide +kernel
theorem dX10_dayGoes_160 : decode cX10_dayGoes 160 = .ok (.iaload, 1) := by decide +kernel
theorem dX10_dayGoes_161 : decode cX10_dayGoes 161 = .ok (.iconst 1, 1) := by decide +kernel
theorem dX10_dayGoes_162 : decode cX10_dayGoes 162 = .ok (.iadd, 1) := by decide +kernel
theorem dX10_dayGoes_163 : decode cX10_dayGoes 163 = .ok (.iastore, 1) := by decide +kernel
theorem dX10_dayGoes_164 : decode cX10_dayGoes 164 = .ok (.return_, 1) := by decide +kernel
theorem dX10_daysGo_0 : decode cX10_daysGo 0 = .ok (.iconst 0, 1) := by decide +kernel
theorem dX10_daysGo_1 : decode cX10_daysGo 1 = .ok (.istore_n 2, 1) := by decide +kernel
theorem dX10_daysGo_2 : decode cX10_daysGo 2 = .ok (.iload_n 2, 1) := by decide +kernel
theorem dX10_daysGo_3 : decode cX10_daysGo 3 = .ok (.iload_n 1, 1) := by decide +kernel
theorem dX10_daysGo_4 : decode cX10_daysGo 4 = .ok (.if_icmp .ge 15, 3) := by decide +kernel
theorem dX10_daysGo_7 : decode cX10_daysGo 7 = .ok (.aload_n 0, 1) := by decide +kernel
theorem dX10_daysGo_8 : decode cX10_daysGo 8 = .ok (.bipush 105, 2) := by decide +kernel
theorem dX10_daysGo_10 : decode cX10_daysGo 10 = .ok (.invokevirtual 343, 3) := by decide +kernel
theorem dX10_daysGo_13 : decode cX10_daysGo 13 = .ok (.iinc 2 1, 3) := by decide +kernel
theorem dX10_daysGo_16 : decode cX10_daysGo 16 = .ok (.goto (-14), 3) := by decide +kernel
theorem dX10_daysGo_19 : decode cX10_daysGo 19 = .ok (.return_, 1) := by decide +kernel
theorem dX10_comesTo_0 : decode cX10_comesTo 0 = .ok (.iconst 0, 1) := by decide +kernel
theorem dX10_comesTo_1 : decode cX10_comesTo 1 = .ok (.istore_n 2, 1) := by decide +kernel
theorem dX10_comesTo_2 : decode cX10_comesTo 2 = .ok (.iconst 0, 1) := by decide +kernel
theorem dX10_comesTo_3 : decode cX10_comesTo 3 = .ok (.istore_n 3, 1) := by decide +kernel
theorem dX10_comesTo_4 : decode cX10_comesTo 4 = .ok (.iload_n 3, 1) := by decide +kernel
theorem dX10_comesTo_5 : decode cX10_comesTo 5 = .ok (.aload_n 0, 1) := by decide +kernel
theorem dX10_comesTo_6 : decode cX10_comesTo 6 = .ok (.getfield 273, 3) := by decide +kernel
theorem dX10_comesTo_9 : decode cX10_comesTo 9 = .ok (.if_icmp .ge 87, 3) := by decide +kernel
theorem dX10_comesTo_12 : decode cX10_comesTo 12 = .ok (.iconst 0, 1) := by decide +kernel
theorem dX10_comesTo_13 : decode cX10_comesTo 13 = .ok (.istore 4, 2) := by decide +kernel
theorem dX10_comesTo_15 : decode cX10_comesTo 15 = .ok (.iload 4, 2) := by decide +kernel
theorem dX10_comesTo_17 : decode cX10_comesTo 17 = .ok (.aload_n 0, 1) := by decide +kernel
theorem dX10_comesTo_18 : decode cX10_comesTo 18 = .ok (.getfield 276, 3) := by decide +kernel
theorem dX10_comesTo_21 : decode cX10_comesTo 21 = .ok (.if_icmp .ge 69, 3) := by decide +kernel
theorem dX10_comesTo_24 : decode cX10_comesTo 24 = .ok (.aload_n 0, 1) := by decide +kernel
theorem dX10_comesTo_25 : decode cX10_comesTo 25 = .ok (.getfield 66, 3) := by decide +kernel
theorem dX10_comesTo_28 : decode cX10_comesTo 28 = .ok (.bipush 11, 2) := by decide +kernel
theorem dX10_comesTo_30 : decode cX10_comesTo 30 = .ok (.iload 4, 2) := by decide +kernel
theorem dX10_comesTo_32 : decode cX10_comesTo 32 = .ok (.iadd, 1) := by decide +kernel
theorem dX10_comesTo_33 : decode cX10_comesTo 33 = .ok (.iaload, 1) := by decide +kernel
theorem dX10_comesTo_34 : decode cX10_comesTo 34 = .ok (.iload_n 1, 1) := by decide +kernel
theorem dX10_comesTo_35 : decode cX10_comesTo 35 = .ok (.if_icmp .eq 35, 3) := by decide +kernel
theorem dX10_comesTo_38 : decode cX10_comesTo 38 = .ok (.aload_n 0, 1) := by decide +kernel
theorem dX10_comesTo_39 : decode cX10_comesTo 39 = .ok (.getfield 66, 3) := by decide +kernel
theorem dX10_comesTo_42 : decode cX10_comesTo 42 = .ok (.bipush 11, 2) := by decide +kernel
theorem dX10_comesTo_44 : decode cX10_comesTo 44 = .ok (.iload 4, 2) := by decide +kernel
theorem dX10_comesTo_46 : decode cX10_comesTo 46 = .ok (.iadd, 1) := by decide +kernel
theorem dX10_comesTo_47 : decode cX10_comesTo 47 = .ok (.iaload, 1) := by decide +kernel
theorem dX10_comesTo_48 : decode cX10_comesTo 48 = .ok (.iconst (-1), 1) := by decide +kernel
theorem dX10_comesTo_49 : decode cX10_comesTo 49 = .ok (.if_icmp .eq 35, 3) := by decide +kernel
theorem dX10_comesTo_52 : decode cX10_comesTo 52 = .ok (.iload_n 2, 1) := by decide +kernel
theorem dX10_comesTo_53 : decode cX10_comesTo 53 = .ok (.aload_n 0, 1) := by decide +kernel
theorem dX10_comesTo_54 : decode cX10_comesTo 54 = .ok (.getfield 66, 3) := by decide +kernel
theorem dX10_comesTo_57 : decode cX10_comesTo 57 = .ok (.bipush 11, 2) := by decide +kernel
theorem dX10_comesTo_59 : decode cX10_comesTo 59 = .ok (.iload 4, 2) := by decide +kernel
theorem dX10_comesTo_61 : decode cX10_comesTo 61 = .ok (.iadd, 1) := by decide +kernel
theorem dX10_comesTo_62 : decode cX10_comesTo 62 = .ok (.iaload, 1) := by decide +kernel
theorem dX10_comesTo_63 : decode cX10_comesTo 63 = .ok (.ishr, 1) := by decide +kernel
theorem dX10_comesTo_64 : decode cX10_comesTo 64 = .ok (.iconst 1, 1) := by decide +kernel
theorem dX10_comesTo_65 : decode cX10_comesTo 65 = .ok (.iand, 1) := by decide +kernel
theorem dX10_comesTo_66 : decode cX10_comesTo 66 = .ok (.iconst 1, 1) := by decide +kernel
theorem dX10_comesTo_67 : decode cX10_comesTo 67 = .ok (.if_icmp .ne 17, 3) := by decide +kernel
theorem dX10_comesTo_70 : decode cX10_comesTo 70 = .ok (.iload_n 2, 1) := by decide +kernel
theorem dX10_comesTo_71 : decode cX10_comesTo 71 = .ok (.iconst 1, 1) := by decide +kernel
theorem dX10_comesTo_72 : decode cX10_comesTo 72 = .ok (.aload_n 0, 1) := by decide +kernel
theorem dX10_comesTo_73 : decode cX10_comesTo 73 = .ok (.getfield 66, 3) := by decide +kernel
theorem dX10_comesTo_76 : decode cX10_comesTo 76 = .ok (.iconst 1, 1) := by decide +kernel
theorem dX10_comesTo_77 : decode cX10_comesTo 77 = .ok (.iload 4, 2) := by decide +kernel
theorem dX10_comesTo_79 : decode cX10_comesTo 79 = .ok (.iadd, 1) := by decide +kernel
theorem dX10_comesTo_80 : decode cX10_comesTo 80 = .ok (.iaload, 1) := by decide +kernel
theorem dX10_comesTo_81 : decode cX10_comesTo 81 = .ok (.ishl, 1) := by decide +kernel
theorem dX10_comesTo_82 : decode cX10_comesTo 82 = .ok (.ior, 1) := by decide +kernel
theorem dX10_comesTo_83 : decode cX10_comesTo 83 = .ok (.istore_n 2, 1) := by decide +kernel
theorem dX10_comesTo_84 : decode cX10_comesTo 84 = .ok (.iinc 4 1, 3) := by decide +kernel
theorem dX10_comesTo_87 : decode cX10_comesTo 87 = .ok (.goto (-72), 3) := by decide +kernel
theorem dX10_comesTo_90 : decode cX10_comesTo 90 = .ok (.iinc 3 1, 3) := by decide +kernel
theorem dX10_comesTo_93 : decode cX10_comesTo 93 = .ok (.goto (-89), 3) := by decide +kernel
theorem dX10_comesTo_96 : decode cX10_comesTo 96 = .ok (.iload_n 2, 1) := by decide +kernel
theorem dX10_comesTo_97 : decode cX10_comesTo 97 = .ok (.ireturn, 1) := by decide +kernel
theorem dX10_ringsNow_0 : decode cX10_ringsNow 0 = .ok (.iconst 0, 1) := by decide +kernel
theorem dX10_ringsNow_1 : decode cX10_ringsNow 1 = .ok (.istore_n 1, 1) := by decide +kernel
theorem dX10_ringsNow_2 : decode cX10_ringsNow 2 = .ok (.iconst 0, 1) := by decide +kernel
theorem dX10_ringsNow_3 : decode cX10_ringsNow 3 = .ok (.istore_n 2, 1) := by decide +kernel
theorem dX10_ringsNow_4 : decode cX10_ringsNow 4 = .ok (.iload_n 2, 1) := by decide +kernel
theorem dX10_ringsNow_5 : decode cX10_ringsNow 5 = .ok (.aload_n 0, 1) := by decide +kernel
theorem dX10_ringsNow_6 : decode cX10_ringsNow 6 = .ok (.getfield 273, 3) := by decide +kernel
theorem dX10_ringsNow_9 : decode cX10_ringsNow 9 = .ok (.if_icmp .ge 21, 3) := by decide +kernel
theorem dX10_ringsNow_12 : decode cX10_ringsNow 12 = .ok (.iload_n 1, 1) := by decide +kernel
theorem dX10_ringsNow_13 : decode cX10_ringsNow 13 = .ok (.aload_n 0, 1) := by decide +kernel
theorem dX10_ringsNow_14 : decode cX10_ringsNow 14 = .ok (.iload_n 2, 1) := by decide +kernel
theorem dX10_ringsNow_15 : decode cX10_ringsNow 15 = .ok (.invokevirtual 346, 3) := by decide +kernel
theorem dX10_ringsNow_18 : decode cX10_ringsNow 18 = .ok (.iconst 1, 1) := by decide +kernel
theorem dX10_ringsNow_19 : decode cX10_ringsNow 19 = .ok (.iload_n 2, 1) := by decide +kernel
theorem dX10_ringsNow_20 : decode cX10_ringsNow 20 = .ok (.ishl, 1) := by decide +kernel
theorem dX10_ringsNow_21 : decode cX10_ringsNow 21 = .ok (.iand, 1) := by decide +kernel
theorem dX10_ringsNow_22 : decode cX10_ringsNow 22 = .ok (.ior, 1) := by decide +kernel
theorem dX10_ringsNow_23 : decode cX10_ringsNow 23 = .ok (.istore_n 1, 1) := by decide +kernel
theorem dX10_ringsNow_24 : decode cX10_ringsNow 24 = .ok (.iinc 2 1, 3) := by decide +kernel
theorem dX10_ringsNow_27 : decode cX10_ringsNow 27 = .ok (.goto (-23), 3) := by decide +kernel
theorem dX10_ringsNow_30 : decode cX10_ringsNow 30 = .ok (.iload_n 1, 1) := by decide +kernel
theorem dX10_ringsNow_31 : decode cX10_ringsNow 31 = .ok (.ireturn, 1) := by decide +kernel
theorem dX10_shameAll_0 : decode cX10_shameAll 0 = .ok (.iconst 0, 1) := by decide +kernel
theorem dX10_shameAll_1 : decode cX10_shameAll 1 = .ok (.istore_n 2, 1) := by decide +kernel
theorem dX10_shameAll_2 : decode cX10_shameAll 2 = .ok (.iconst 0, 1) := by decide +kernel
theorem dX10_shameAll_3 : decode cX10_shameAll 3 = .ok (.istore_n 3, 1) := by decide +kernel
theorem dX10_shameAll_4 : decode cX10_shameAll 4 = .ok (.iload_n 3, 1) := by decide +kernel
theorem dX10_shameAll_5 : decode cX10_shameAll 5 = .ok (.aload_n 0, 1) := by decide +kernel
theorem dX10_shameAll_6 : decode cX10_shameAll 6 = .ok (.getfield 273, 3) := by decide +kernel
theorem dX10_shameAll_9 : decode cX10_shameAll 9 = .ok (.if_icmp .ge 23, 3) := by decide +kernel
theorem dX10_shameAll_12 : decode cX10_shameAll 12 = .ok (.iload_n 2, 1) := by decide +kernel
theorem dX10_shameAll_13 : decode cX10_shameAll 13 = .ok (.aload_n 0, 1) := by decide +kernel
theorem dX10_shameAll_14 : decode cX10_shameAll 14 = .ok (.getfield 66, 3) := by decide +kernel
theorem dX10_shameAll_17 : decode cX10_shameAll 17 = .ok (.iload_n 1, 1) := by decide +kernel
theorem dX10_shameAll_18 : decode cX10_shameAll 18 = .ok (.bipush 41, 2) := by decide +kernel
theorem dX10_shameAll_20 : decode cX10_shameAll 20 = .ok (.iadd, 1) := by decide +kernel
theorem dX10_shameAll_21 : decode cX10_shameAll 21 = .ok (.iload_n 3, 1) := by decide +kernel
theorem dX10_shameAll_22 : decode cX10_shameAll 22 = .ok (.iadd, 1) := by decide +kernel
theorem dX10_shameAll_23 : decode cX10_shameAll 23 = .ok (.iaload, 1) := by decide +kernel
theorem dX10_shameAll_24 : decode cX10_shameAll 24 = .ok (.iadd, 1) := by decide +kernel
theorem dX10_shameAll_25 : decode cX10_shameAll 25 = .ok (.istore_n 2, 1) := by decide +kernel
theorem dX10_shameAll_26 : decode cX10_shameAll 26 = .ok (.iinc 3 1, 3) := by decide +kernel
theorem dX10_shameAll_29 : decode cX10_shameAll 29 = .ok (.goto (-25), 3) := by decide +kernel
theorem dX10_shameAll_32 : decode cX10_shameAll 32 = .ok (.iload_n 2, 1) := by decide +kernel
theorem dX10_shameAll_33 : decode cX10_shameAll 33 = .ok (.ireturn, 1) := by decide +kernel
theorem dX10_count_0 : decode cX10_count 0 = .ok (.aload_n 0, 1) := by decide +kernel
theorem dX10_count_1 : decode cX10_count 1 = .ok (.iconst 0, 1) := by decide +kernel
theorem dX10_count_2 : decode cX10_count 2 = .ok (.putfield 102, 3) := by decide +kernel
theorem dX10_count_5 : decode cX10_count 5 = .ok (.aload_n 0, 1) := by decide +kernel
theorem dX10_count_6 : decode cX10_count 6 = .ok (.iload_n 1, 1) := by decide +kernel
theorem dX10_count_7 : decode cX10_count 7 = .ok (.iconst 0, 1) := by decide +kernel
theorem dX10_count_8 : decode cX10_count 8 = .ok (.bipush 13, 2) := by decide +kernel
theorem dX10_count_10 : decode cX10_count 10 = .ok (.invokestatic 349, 3) := by decide +kernel
theorem dX10_count_13 : decode cX10_count 13 = .ok (.iconst 1, 1) := by decide +kernel
theorem dX10_count_14 : decode cX10_count 14 = .ok (.invokevirtual 266, 3) := by decide +kernel
theorem dX10_count_17 : decode cX10_count 17 = .ok (.ifCond .ne 5, 3) := by decide +kernel
theorem dX10_count_20 : decode cX10_count 20 = .ok (.iconst 0, 1) := by decide +kernel
theorem dX10_count_21 : decode cX10_count 21 = .ok (.ireturn, 1) := by decide +kernel
theorem dX10_count_22 : decode cX10_count 22 = .ok (.iload_n 1, 1) := by decide +kernel
theorem dX10_count_23 : decode cX10_count 23 = .ok (.tableswitch 116 0 10 #[57, 62, 67, 72, 77, 84, 90, 95, 101, 106, 111], 57) := by decide +kernel
theorem dX10_count_80 : decode cX10_count 80 = .ok (.aload_n 0, 1) := by decide +kernel
theorem dX10_count_81 : decode cX10_count 81 = .ok (.getfield 7, 3) := by decide +kernel
theorem dX10_count_84 : decode cX10_count 84 = .ok (.ireturn, 1) := by decide +kernel
theorem dX10_count_85 : decode cX10_count 85 = .ok (.aload_n 0, 1) := by decide +kernel
theorem dX10_count_86 : decode cX10_count 86 = .ok (.getfield 273, 3) := by decide +kernel
theorem dX10_count_89 : decode cX10_count 89 = .ok (.ireturn, 1) := by decide +kernel
theorem dX10_count_90 : decode cX10_count 90 = .ok (.aload_n 0, 1) := by decide +kernel
theorem dX10_count_91 : decode cX10_count 91 = .ok (.getfield 276, 3) := by decide +kernel
theorem dX10_count_94 : decode cX10_count 94 = .ok (.ireturn, 1) := by decide +kernel
theorem dX10_count_95 : decode cX10_count 95 = .ok (.aload_n 0, 1) := by decide +kernel
theorem dX10_count_96 : decode cX10_count 96 = .ok (.getfield 13, 3) := by decide +kernel
theorem dX10_count_99 : decode cX10_count 99 = .ok (.ireturn, 1) := by decide +kernel
theorem dX10_count_100 : decode cX10_count 100 = .ok (.aload_n 0, 1) := by decide +kernel
theorem dX10_count_101 : decode cX10_count 101 = .ok (.getfield 66, 3) := by decide +kernel
theorem dX10_count_104 : decode cX10_count 104 = .ok (.iconst 0, 1) := by decide +kernel
theorem dX10_count_105 : decode cX10_count 105 = .ok (.iaload, 1) := by decide +kernel
theorem dX10_count_106 : decode cX10_count 106 = .ok (.ireturn, 1) := by decide +kernel
theorem dX10_count_107 : decode cX10_count 107 = .ok (.aload_n 0, 1) := by decide +kernel
theorem dX10_count_108 : decode cX10_count 108 = .ok (.iconst 0, 1) := by decide +kernel
theorem dX10_count_109 : decode cX10_count 109 = .ok (.invokevirtual 353, 3) := by decide +kernel
theorem dX10_count_112 : decode cX10_count 112 = .ok (.ireturn, 1) := by decide +kernel
theorem dX10_count_113 : decode cX10_count 113 = .ok (.aload_n 0, 1) := by decide +kernel
theorem dX10_count_114 : decode cX10_count 114 = .ok (.invokevirtual 356, 3) := by decide +kernel
theorem dX10_count_117 : decode cX10_count 117 = .ok (.ireturn, 1) := by decide +kernel
theorem dX10_count_118 : decode cX10_count 118 = .ok (.aload_n 0, 1) := by decide +kernel
theorem dX10_count_119 : decode cX10_count 119 = .ok (.iconst 0, 1) := by decide +kernel
theorem dX10_count_120 : decode cX10_count 120 = .ok (.invokevirtual 359, 3) := by decide +kernel
theorem dX10_count_123 : decode cX10_count 123 = .ok (.ireturn, 1) := by decide +kernel
theorem dX10_count_124 : decode cX10_count 124 = .ok (.aload_n 0, 1) := by decide +kernel
theorem dX10_count_125 : decode cX10_count 125 = .ok (.getfield 283, 3) := by decide +kernel
theorem dX10_count_128 : decode cX10_count 128 = .ok (.ireturn, 1) := by decide +kernel
theorem dX10_count_129 : decode cX10_count 129 = .ok (.aload_n 0, 1) := by decide +kernel
theorem dX10_count_130 : decode cX10_count 130 = .ok (.getfield 286, 3) := by decide +kernel
theorem dX10_count_133 : decode cX10_count 133 = .ok (.ireturn, 1) := by decide +kernel
theorem dX10_count_134 : decode cX10_count 134 = .ok (.aload_n 0, 1) := by decide +kernel
theorem dX10_count_135 : decode cX10_count 135 = .ok (.getfield 105, 3) := by decide +kernel
theorem dX10_count_138 : decode cX10_count 138 = .ok (.ireturn, 1) := by decide +kernel
theorem dX10_count_139 : decode cX10_count 139 = .ok (.aload_n 0, 1) := by decide +kernel
theorem dX10_count_140 : decode cX10_count 140 = .ok (.getfield 42, 3) := by decide +kernel
theorem dX10_count_143 : decode cX10_count 143 = .ok (.iload_n 1, 1) := by decide +kernel
theorem dX10_count_144 : decode cX10_count 144 = .ok (.bipush 11, 2) := by decide +kernel
theorem dX10_count_146 : decode cX10_count 146 = .ok (.isub, 1) := by decide +kernel
theorem dX10_count_147 : decode cX10_count 147 = .ok (.iaload, 1) := by decide +kernel
theorem dX10_count_148 : decode cX10_count 148 = .ok (.ireturn, 1) := by decide +kernel
theorem dX10_isPerson_0 : decode cX10_isPerson 0 = .ok (.aload_n 0, 1) := by decide +kernel
theorem dX10_isPerson_1 : decode cX10_isPerson 1 = .ok (.iload_n 1, 1) := by decide +kernel
theorem dX10_isPerson_2 : decode cX10_isPerson 2 = .ok (.ifCond .lt 15, 3) := by decide +kernel
theorem dX10_isPerson_5 : decode cX10_isPerson 5 = .ok (.iload_n 1, 1) := by decide +kernel
theorem dX10_isPerson_6 : decode cX10_isPerson 6 = .ok (.aload_n 0, 1) := by decide +kernel
theorem dX10_isPerson_7 : decode cX10_isPerson 7 = .ok (.getfield 273, 3) := by decide +kernel
theorem dX10_isPerson_10 : decode cX10_isPerson 10 = .ok (.if_icmp .ge 7, 3) := by decide +kernel
theorem dX10_isPerson_13 : decode cX10_isPerson 13 = .ok (.iconst 1, 1) := by decide +kernel
theorem dX10_isPerson_14 : decode cX10_isPerson 14 = .ok (.goto 4, 3) := by decide +kernel
theorem dX10_isPerson_17 : decode cX10_isPerson 17 = .ok (.iconst 0, 1) := by decide +kernel
theorem dX10_isPerson_18 : decode cX10_isPerson 18 = .ok (.iconst 1, 1) := by decide +kernel
theorem dX10_isPerson_19 : decode cX10_isPerson 19 = .ok (.invokevirtual 266, 3) := by decide +kernel
theorem dX10_isPerson_22 : decode cX10_isPerson 22 = .ok (.ireturn, 1) := by decide +kernel
theorem dX10_isThing_0 : decode cX10_isThing 0 = .ok (.aload_n 0, 1) := by decide +kernel
theorem dX10_isThing_1 : decode cX10_isThing 1 = .ok (.iload_n 1, 1) := by decide +kernel
theorem dX10_isThing_2 : decode cX10_isThing 2 = .ok (.ifCond .lt 15, 3) := by decide +kernel
theorem dX10_isThing_5 : decode cX10_isThing 5 = .ok (.iload_n 1, 1) := by decide +kernel
theorem dX10_isThing_6 : decode cX10_isThing 6 = .ok (.aload_n 0, 1) := by decide +kernel
theorem dX10_isThing_7 : decode cX10_isThing 7 = .ok (.getfield 276, 3) := by decide +kernel
theorem dX10_isThing_10 : decode cX10_isThing 10 = .ok (.if_icmp .ge 7, 3) := by decide +kernel
theorem dX10_isThing_13 : decode cX10_isThing 13 = .ok (.iconst 1, 1) := by decide +kernel
theorem dX10_isThing_14 : decode cX10_isThing 14 = .ok (.goto 4, 3) := by decide +kernel
theorem dX10_isThing_17 : decode cX10_isThing 17 = .ok (.iconst 0, 1) := by decide +kernel
theorem dX10_isThing_18 : decode cX10_isThing 18 = .ok (.iconst 1, 1) := by decide +kernel
theorem dX10_isThing_19 : decode cX10_isThing 19 = .ok (.invokevirtual 266, 3) := by decide +kernel
theorem dX10_isThing_22 : decode cX10_isThing 22 = .ok (.ireturn, 1) := by decide +kernel
theorem dX10_isWhat_0 : decode cX10_isWhat 0 = .ok (.aload_n 0, 1) := by decide +kernel
theorem dX10_isWhat_1 : decode cX10_isWhat 1 = .ok (.iload_n 1, 1) := by decide +kernel
theorem dX10_isWhat_2 : decode cX10_isWhat 2 = .ok (.iconst 0, 1) := by decide +kernel
theorem dX10_isWhat_3 : decode cX10_isWhat 3 = .ok (.iload_n 2, 1) := by decide +kernel
theorem dX10_isWhat_4 : decode cX10_isWhat 4 = .ok (.invokestatic 349, 3) := by decide +kernel
theorem dX10_isWhat_7 : decode cX10_isWhat 7 = .ok (.iconst 1, 1) := by decide +kernel
theorem dX10_isWhat_8 : decode cX10_isWhat 8 = .ok (.invokevirtual 266, 3) := by decide +kernel
theorem dX10_isWhat_11 : decode cX10_isWhat 11 = .ok (.ireturn, 1) := by decide +kernel
theorem dX10_isSoon_0 : decode cX10_isSoon 0 = .ok (.aload_n 0, 1) := by decide +kernel
theorem dX10_isSoon_1 : decode cX10_isSoon 1 = .ok (.iload_n 1, 1) := by decide +kernel
theorem dX10_isSoon_2 : decode cX10_isSoon 2 = .ok (.iload_n 2, 1) := by decide +kernel
theorem dX10_isSoon_3 : decode cX10_isSoon 3 = .ok (.bipush 100, 2) := by decide +kernel
theorem dX10_isSoon_5 : decode cX10_isSoon 5 = .ok (.invokestatic 349, 3) := by decide +kernel
theorem dX10_isSoon_8 : decode cX10_isSoon 8 = .ok (.iload_n 3, 1) := by decide +kernel
theorem dX10_isSoon_9 : decode cX10_isSoon 9 = .ok (.invokevirtual 266, 3) := by decide +kernel
theorem dX10_isSoon_12 : decode cX10_isSoon 12 = .ok (.ireturn, 1) := by decide +kernel
theorem dX10_ownedBy_0 : decode cX10_ownedBy 0 = .ok (.iconst 0, 1) := by decide +kernel
theorem dX10_ownedBy_1 : decode cX10_ownedBy 1 = .ok (.istore_n 3, 1) := by decide +kernel
theorem dX10_ownedBy_2 : decode cX10_ownedBy 2 = .ok (.iconst 0, 1) := by decide +kernel
theorem dX10_ownedBy_3 : decode cX10_ownedBy 3 = .ok (.istore 4, 2) := by decide +kernel
theorem dX10_ownedBy_5 : decode cX10_ownedBy 5 = .ok (.iload 4, 2) := by decide +kernel
theorem dX10_ownedBy_7 : decode cX10_ownedBy 7 = .ok (.aload_n 0, 1) := by decide +kernel
theorem dX10_ownedBy_8 : decode cX10_ownedBy 8 = .ok (.getfield 276, 3) := by decide +kernel
theorem dX10_ownedBy_11 : decode cX10_ownedBy 11 = .ok (.if_icmp .ge 35, 3) := by decide +kernel
theorem dX10_ownedBy_14 : decode cX10_ownedBy 14 = .ok (.iload_n 3, 1) := by decide +kernel
theorem dX10_ownedBy_15 : decode cX10_ownedBy 15 = .ok (.aload_n 0, 1) := by decide +kernel
theorem dX10_ownedBy_16 : decode cX10_ownedBy 16 = .ok (.getfield 66, 3) := by decide +kernel
theorem dX10_ownedBy_19 : decode cX10_ownedBy 19 = .ok (.iload_n 1, 1) := by decide +kernel
theorem dX10_ownedBy_20 : decode cX10_ownedBy 20 = .ok (.iconst 1, 1) := by decide +kernel
theorem dX10_ownedBy_21 : decode cX10_ownedBy 21 = .ok (.iadd, 1) := by decide +kernel
theorem dX10_ownedBy_22 : decode cX10_ownedBy 22 = .ok (.iload 4, 2) := by decide +kernel
theorem dX10_ownedBy_24 : decode cX10_ownedBy 24 = .ok (.iadd, 1) := by decide +kernel
theorem dX10_ownedBy_25 : decode cX10_ownedBy 25 = .ok (.iaload, 1) := by decide +kernel
theorem dX10_ownedBy_26 : decode cX10_ownedBy 26 = .ok (.iload_n 2, 1) := by decide +kernel
theorem dX10_ownedBy_27 : decode cX10_ownedBy 27 = .ok (.if_icmp .ne 10, 3) := by decide +kernel
theorem dX10_ownedBy_30 : decode cX10_ownedBy 30 = .ok (.iconst 1, 1) := by decide +kernel
theorem dX10_ownedBy_31 : decode cX10_ownedBy 31 = .ok (.iload 4, 2) := by decide +kernel
theorem dX10_ownedBy_33 : decode cX10_ownedBy 33 = .ok (.ishl, 1) := by decide +kernel
theorem dX10_ownedBy_34 : decode cX10_ownedBy 34 = .ok (.goto 4, 3) := by decide +kernel
theorem dX10_ownedBy_37 : decode cX10_ownedBy 37 = .ok (.iconst 0, 1) := by decide +kernel
theorem dX10_ownedBy_38 : decode cX10_ownedBy 38 = .ok (.ior, 1) := by decide +kernel
theorem dX10_ownedBy_39 : decode cX10_ownedBy 39 = .ok (.istore_n 3, 1) := by decide +kernel
theorem dX10_ownedBy_40 : decode cX10_ownedBy 40 = .ok (.iinc 4 1, 3) := by decide +kernel
theorem dX10_ownedBy_43 : decode cX10_ownedBy 43 = .ok (.goto (-38), 3) := by decide +kernel
theorem dX10_ownedBy_46 : decode cX10_ownedBy 46 = .ok (.iload_n 3, 1) := by decide +kernel
theorem dX10_ownedBy_47 : decode cX10_ownedBy 47 = .ok (.ireturn, 1) := by decide +kernel
theorem dX10_heavy_0 : decode cX10_heavy 0 = .ok (.iconst 0, 1) := by decide +kernel
theorem dX10_heavy_1 : decode cX10_heavy 1 = .ok (.istore_n 2, 1) := by decide +kernel
theorem dX10_heavy_2 : decode cX10_heavy 2 = .ok (.iconst 0, 1) := by decide +kernel
theorem dX10_heavy_3 : decode cX10_heavy 3 = .ok (.istore_n 3, 1) := by decide +kernel
theorem dX10_heavy_4 : decode cX10_heavy 4 = .ok (.iload_n 3, 1) := by decide +kernel
theorem dX10_heavy_5 : decode cX10_heavy 5 = .ok (.aload_n 0, 1) := by decide +kernel
theorem dX10_heavy_6 : decode cX10_heavy 6 = .ok (.getfield 276, 3) := by decide +kernel
theorem dX10_heavy_9 : decode cX10_heavy 9 = .ok (.if_icmp .ge 31, 3) := by decide +kernel
theorem dX10_heavy_12 : decode cX10_heavy 12 = .ok (.iload_n 2, 1) := by decide +kernel
theorem dX10_heavy_13 : decode cX10_heavy 13 = .ok (.iload_n 1, 1) := by decide +kernel
theorem dX10_heavy_14 : decode cX10_heavy 14 = .ok (.iload_n 3, 1) := by decide +kernel
theorem dX10_heavy_15 : decode cX10_heavy 15 = .ok (.ishr, 1) := by decide +kernel
theorem dX10_heavy_16 : decode cX10_heavy 16 = .ok (.iconst 1, 1) := by decide +kernel
theorem dX10_heavy_17 : decode cX10_heavy 17 = .ok (.iand, 1) := by decide +kernel
theorem dX10_heavy_18 : decode cX10_heavy 18 = .ok (.iconst 1, 1) := by decide +kernel
theorem dX10_heavy_19 : decode cX10_heavy 19 = .ok (.if_icmp .ne 12, 3) := by decide +kernel
theorem dX10_heavy_22 : decode cX10_heavy 22 = .ok (.aload_n 0, 1) := by decide +kernel
theorem dX10_heavy_23 : decode cX10_heavy 23 = .ok (.getfield 26, 3) := by decide +kernel
theorem dX10_heavy_26 : decode cX10_heavy 26 = .ok (.iload_n 3, 1) := by decide +kernel
theorem dX10_heavy_27 : decode cX10_heavy 27 = .ok (.iaload, 1) := by decide +kernel
theorem dX10_heavy_28 : decode cX10_heavy 28 = .ok (.goto 4, 3) := by decide +kernel
theorem dX10_heavy_31 : decode cX10_heavy 31 = .ok (.iconst 0, 1) := by decide +kernel
theorem dX10_heavy_32 : decode cX10_heavy 32 = .ok (.iadd, 1) := by decide +kernel
theorem dX10_heavy_33 : decode cX10_heavy 33 = .ok (.istore_n 2, 1) := by decide +kernel
theorem dX10_heavy_34 : decode cX10_heavy 34 = .ok (.iinc 3 1, 3) := by decide +kernel
theorem dX10_heavy_37 : decode cX10_heavy 37 = .ok (.goto (-33), 3) := by decide +kernel
theorem dX10_heavy_40 : decode cX10_heavy 40 = .ok (.iload_n 2, 1) := by decide +kernel
theorem dX10_heavy_41 : decode cX10_heavy 41 = .ok (.ireturn, 1) := by decide +kernel
theorem dX10_oddest_0 : decode cX10_oddest 0 = .ok (.iconst (-1), 1) := by decide +kernel
theorem dX10_oddest_1 : decode cX10_oddest 1 = .ok (.istore_n 2, 1) := by decide +kernel
theorem dX10_oddest_2 : decode cX10_oddest 2 = .ok (.iconst 0, 1) := by decide +kernel
theorem dX10_oddest_3 : decode cX10_oddest 3 = .ok (.istore_n 3, 1) := by decide +kernel
theorem dX10_oddest_4 : decode cX10_oddest 4 = .ok (.iload_n 3, 1) := by decide +kernel
theorem dX10_oddest_5 : decode cX10_oddest 5 = .ok (.aload_n 0, 1) := by decide +kernel
theorem dX10_oddest_6 : decode cX10_oddest 6 = .ok (.getfield 276, 3) := by decide +kernel
theorem dX10_oddest_9 : decode cX10_oddest 9 = .ok (.if_icmp .ge 50, 3) := by decide +kernel
theorem dX10_oddest_12 : decode cX10_oddest 12 = .ok (.aload_n 0, 1) := by decide +kernel
theorem dX10_oddest_13 : decode cX10_oddest 13 = .ok (.getfield 66, 3) := by decide +kernel
theorem dX10_oddest_16 : decode cX10_oddest 16 = .ok (.bipush 11, 2) := by decide +kernel
theorem dX10_oddest_18 : decode cX10_oddest 18 = .ok (.iload_n 3, 1) := by decide +kernel
theorem dX10_oddest_19 : decode cX10_oddest 19 = .ok (.iadd, 1) := by decide +kernel
theorem dX10_oddest_20 : decode cX10_oddest 20 = .ok (.iaload, 1) := by decide +kernel
theorem dX10_oddest_21 : decode cX10_oddest 21 = .ok (.iload_n 1, 1) := by decide +kernel
theorem dX10_oddest_22 : decode cX10_oddest 22 = .ok (.if_icmp .ne 31, 3) := by decide +kernel
theorem dX10_oddest_25 : decode cX10_oddest 25 = .ok (.iload_n 2, 1) := by decide +kernel
theorem dX10_oddest_26 : decode cX10_oddest 26 = .ok (.iconst (-1), 1) := by decide +kernel
theorem dX10_oddest_27 : decode cX10_oddest 27 = .ok (.if_icmp .eq 24, 3) := by decide +kernel
theorem dX10_oddest_30 : decode cX10_oddest 30 = .ok (.aload_n 0, 1) := by decide +kernel
theorem dX10_oddest_31 : decode cX10_oddest 31 = .ok (.getfield 66, 3) := by decide +kernel
theorem dX10_oddest_34 : decode cX10_oddest 34 = .ok (.bipush 31, 2) := by decide +kernel
theorem dX10_oddest_36 : decode cX10_oddest 36 = .ok (.iload_n 3, 1) := by decide +kernel
theorem dX10_oddest_37 : decode cX10_oddest 37 = .ok (.iadd, 1) := by decide +kernel
theorem dX10_oddest_38 : decode cX10_oddest 38 = .ok (.iaload, 1) := by decide +kernel
theorem dX10_oddest_39 : decode cX10_oddest 39 = .ok (.aload_n 0, 1) := by decide +kernel
theorem dX10_oddest_40 : decode cX10_oddest 40 = .ok (.getfield 66, 3) := by decide +kernel
theorem dX10_oddest_43 : decode cX10_oddest 43 = .ok (.bipush 31, 2) := by decide +kernel
theorem dX10_oddest_45 : decode cX10_oddest 45 = .ok (.iload_n 2, 1) := by decide +kernel
theorem dX10_oddest_46 : decode cX10_oddest 46 = .ok (.iadd, 1) := by decide +kernel
theorem dX10_oddest_47 : decode cX10_oddest 47 = .ok (.iaload, 1) := by decide +kernel
theorem dX10_oddest_48 : decode cX10_oddest 48 = .ok (.if_icmp .le 5, 3) := by decide +kernel
theorem dX10_oddest_51 : decode cX10_oddest 51 = .ok (.iload_n 3, 1) := by decide +kernel
theorem dX10_oddest_52 : decode cX10_oddest 52 = .ok (.istore_n 2, 1) := by decide +kernel
theorem dX10_oddest_53 : decode cX10_oddest 53 = .ok (.iinc 3 1, 3) := by decide +kernel
theorem dX10_oddest_56 : decode cX10_oddest 56 = .ok (.goto (-52), 3) := by decide +kernel
theorem dX10_oddest_59 : decode cX10_oddest 59 = .ok (.iload_n 2, 1) := by decide +kernel
theorem dX10_oddest_60 : decode cX10_oddest 60 = .ok (.ireturn, 1) := by decide +kernel
theorem dX10_person_0 : decode cX10_person 0 = .ok (.aload_n 0, 1) := by decide +kernel
theorem dX10_person_1 : decode cX10_person 1 = .ok (.iconst 0, 1) := by decide +kernel
theorem dX10_person_2 : decode cX10_person 2 = .ok (.putfield 102, 3) := by decide +kernel
theorem dX10_person_5 : decode cX10_person 5 = .ok (.aload_n 0, 1) := by decide +kernel
theorem dX10_person_6 : decode cX10_person 6 = .ok (.iload_n 1, 1) := by decide +kernel
theorem dX10_person_7 : decode cX10_person 7 = .ok (.invokevirtual 362, 3) := by decide +kernel
theorem dX10_person_10 : decode cX10_person 10 = .ok (.ifCond .eq 13, 3) := by decide +kernel
theorem dX10_person_13 : decode cX10_person 13 = .ok (.aload_n 0, 1) := by decide +kernel
theorem dX10_person_14 : decode cX10_person 14 = .ok (.iload_n 2, 1) := by decide +kernel
theorem dX10_person_15 : decode cX10_person 15 = .ok (.bipush 8, 2) := by decide +kernel
theorem dX10_person_17 : decode cX10_person 17 = .ok (.invokevirtual 365, 3) := by decide +kernel
theorem dX10_person_20 : decode cX10_person 20 = .ok (.ifCond .ne 5, 3) := by decide +kernel
theorem dX10_person_23 : decode cX10_person 23 = .ok (.iconst 0, 1) := by decide +kernel
theorem dX10_person_24 : decode cX10_person 24 = .ok (.ireturn, 1) := by decide +kernel
theorem dX10_person_25 : decode cX10_person 25 = .ok (.iload_n 2, 1) := by decide +kernel
theorem dX10_person_26 : decode cX10_person 26 = .ok (.tableswitch 136 0 7 #[46, 56, 69, 79, 94, 101, 112, 125], 46) := by decide +kernel
theorem dX10_person_72 : decode cX10_person 72 = .ok (.aload_n 0, 1) := by decide +kernel
theorem dX10_person_73 : decode cX10_person 73 = .ok (.getfield 66, 3) := by decide +kernel
theorem dX10_person_76 : decode cX10_person 76 = .ok (.bipush 49, 2) := by decide +kernel
theorem dX10_person_78 : decode cX10_person 78 = .ok (.iload_n 1, 1) := by decide +kernel
theorem dX10_person_79 : decode cX10_person 79 = .ok (.iadd, 1) := by decide +kernel
theorem dX10_person_80 : decode cX10_person 80 = .ok (.iaload, 1) := by decide +kernel
theorem dX10_person_81 : decode cX10_person 81 = .ok (.ireturn, 1) := by decide +kernel
theorem dX10_person_82 : decode cX10_person 82 = .ok (.aload_n 0, 1) := by decide +kernel
theorem dX10_person_83 : decode cX10_person 83 = .ok (.iconst 0, 1) := by decide +kernel
theorem dX10_person_84 : decode cX10_person 84 = .ok (.iload_n 1, 1) := by decide +kernel
theorem dX10_person_85 : decode cX10_person 85 = .ok (.aload_n 0, 1) := by decide +kernel
theorem dX10_person_86 : decode cX10_person 86 = .ok (.getfield 66, 3) := by decide +kernel
theorem dX10_person_89 : decode cX10_person 89 = .ok (.iconst 0, 1) := by decide +kernel
theorem dX10_person_90 : decode cX10_person 90 = .ok (.iaload, 1) := by decide +kernel
theorem dX10_person_91 : decode cX10_person 91 = .ok (.invokevirtual 297, 3) := by decide +kernel
theorem dX10_person_94 : decode cX10_person 94 = .ok (.ireturn, 1) := by decide +kernel
theorem dX10_person_95 : decode cX10_person 95 = .ok (.aload_n 0, 1) := by decide +kernel
theorem dX10_person_96 : decode cX10_person 96 = .ok (.getfield 66, 3) := by decide +kernel
theorem dX10_person_99 : decode cX10_person 99 = .ok (.bipush 41, 2) := by decide +kernel
theorem dX10_person_101 : decode cX10_person 101 = .ok (.iload_n 1, 1) := by decide +kernel
theorem dX10_person_102 : decode cX10_person 102 = .ok (.iadd, 1) := by decide +kernel
theorem dX10_person_103 : decode cX10_person 103 = .ok (.iaload, 1) := by decide +kernel
theorem dX10_person_104 : decode cX10_person 104 = .ok (.ireturn, 1) := by decide +kernel
theorem dX10_person_105 : decode cX10_person 105 = .ok (.aload_n 0, 1) := by decide +kernel
theorem dX10_person_106 : decode cX10_person 106 = .ok (.getfield 32, 3) := by decide +kernel
theorem dX10_person_109 : decode cX10_person 109 = .ok (.iload_n 1, 1) := by decide +kernel
theorem dX10_person_110 : decode cX10_person 110 = .ok (.baload, 1) := by decide +kernel
theorem dX10_person_111 : decode cX10_person 111 = .ok (.ifCond .eq 7, 3) := by decide +kernel
theorem dX10_person_114 : decode cX10_person 114 = .ok (.iconst 1, 1) := by decide +kernel
theorem dX10_person_115 : decode cX10_person 115 = .ok (.goto 4, 3) := by decide +kernel
theorem dX10_person_118 : decode cX10_person 118 = .ok (.iconst 0, 1) := by decide +kernel
theorem dX10_person_119 : decode cX10_person 119 = .ok (.ireturn, 1) := by decide +kernel
theorem dX10_person_120 : decode cX10_person 120 = .ok (.aload_n 0, 1) := by decide +kernel
theorem dX10_person_121 : decode cX10_person 121 = .ok (.iconst 0, 1) := by decide +kernel
theorem dX10_person_122 : decode cX10_person 122 = .ok (.iload_n 1, 1) := by decide +kernel
theorem dX10_person_123 : decode cX10_person 123 = .ok (.invokevirtual 300, 3) := by decide +kernel
theorem dX10_person_126 : decode cX10_person 126 = .ok (.ireturn, 1) := by decide +kernel
theorem dX10_person_127 : decode cX10_person 127 = .ok (.aload_n 0, 1) := by decide +kernel
theorem dX10_person_128 : decode cX10_person 128 = .ok (.aload_n 0, 1) := by decide +kernel
theorem dX10_person_129 : decode cX10_person 129 = .ok (.iconst 0, 1) := by decide +kernel
theorem dX10_person_130 : decode cX10_person 130 = .ok (.iload_n 1, 1) := by decide +kernel
theorem dX10_person_131 : decode cX10_person 131 = .ok (.invokevirtual 300, 3) := by decide +kernel
theorem dX10_person_134 : decode cX10_person 134 = .ok (.invokevirtual 368, 3) := by decide +kernel
theorem dX10_person_137 : decode cX10_person 137 = .ok (.ireturn, 1) := by decide +kernel
theorem dX10_person_138 : decode cX10_person 138 = .ok (.aload_n 0, 1) := by decide +kernel
theorem dX10_person_139 : decode cX10_person 139 = .ok (.iconst 0, 1) := by decide +kernel
theorem dX10_person_140 : decode cX10_person 140 = .ok (.iload_n 1, 1) := by decide +kernel
theorem dX10_person_141 : decode cX10_person 141 = .ok (.invokevirtual 371, 3) := by decide +kernel
theorem dX10_person_144 : decode cX10_person 144 = .ok (.aload_n 0, 1) := by decide +kernel
theorem dX10_person_145 : decode cX10_person 145 = .ok (.iconst 0, 1) := by decide +kernel
theorem dX10_person_146 : decode cX10_person 146 = .ok (.invokevirtual 353, 3) := by decide +kernel
theorem dX10_person_149 : decode cX10_person 149 = .ok (.iand, 1) := by decide +kernel
theorem dX10_person_150 : decode cX10_person 150 = .ok (.ireturn, 1) := by decide +kernel
theorem dX10_person_151 : decode cX10_person 151 = .ok (.aload_n 0, 1) := by decide +kernel
theorem dX10_person_152 : decode cX10_person 152 = .ok (.aload_n 0, 1) := by decide +kernel
theorem dX10_person_153 : decode cX10_person 153 = .ok (.iconst 0, 1) := by decide +kernel
theorem dX10_person_154 : decode cX10_person 154 = .ok (.iload_n 1, 1) := by decide +kernel
theorem dX10_person_155 : decode cX10_person 155 = .ok (.invokevirtual 371, 3) := by decide +kernel
theorem dX10_person_158 : decode cX10_person 158 = .ok (.invokevirtual 368, 3) := by decide +kernel
theorem dX10_person_161 : decode cX10_person 161 = .ok (.ireturn, 1) := by decide +kernel
theorem dX10_person_162 : decode cX10_person 162 = .ok (.aload_n 0, 1) := by decide +kernel
theorem dX10_person_163 : decode cX10_person 163 = .ok (.iload_n 1, 1) := by decide +kernel
theorem dX10_person_164 : decode cX10_person 164 = .ok (.invokevirtual 374, 3) := by decide +kernel
theorem dX10_person_167 : decode cX10_person 167 = .ok (.ireturn, 1) := by decide +kernel
theorem dX10_thing_0 : decode cX10_thing 0 = .ok (.aload_n 0, 1) := by decide +kernel
theorem dX10_thing_1 : decode cX10_thing 1 = .ok (.iconst 0, 1) := by decide +kernel
theorem dX10_thing_2 : decode cX10_thing 2 = .ok (.putfield 102, 3) := by decide +kernel
theorem dX10_thing_5 : decode cX10_thing 5 = .ok (.aload_n 0, 1) := by decide +kernel
theorem dX10_thing_6 : decode cX10_thing 6 = .ok (.iload_n 1, 1) := by decide +kernel
theorem dX10_thing_7 : decode cX10_thing 7 = .ok (.invokevirtual 377, 3) := by decide +kernel
theorem dX10_thing_10 : decode cX10_thing 10 = .ok (.ifCond .eq 12, 3) := by decide +kernel
theorem dX10_thing_13 : decode cX10_thing 13 = .ok (.aload_n 0, 1) := by decide +kernel
theorem dX10_thing_14 : decode cX10_thing 14 = .ok (.iload_n 2, 1) := by decide +kernel
theorem dX10_thing_15 : decode cX10_thing 15 = .ok (.iconst 5, 1) := by decide +kernel
theorem dX10_thing_16 : decode cX10_thing 16 = .ok (.invokevirtual 365, 3) := by decide +kernel
theorem dX10_thing_19 : decode cX10_thing 19 = .ok (.ifCond .ne 5, 3) := by decide +kernel
theorem dX10_thing_22 : decode cX10_thing 22 = .ok (.iconst 0, 1) := by decide +kernel
theorem dX10_thing_23 : decode cX10_thing 23 = .ok (.ireturn, 1) := by decide +kernel
theorem dX10_thing_24 : decode cX10_thing 24 = .ok (.iload_n 2, 1) := by decide +kernel
theorem dX10_thing_25 : decode cX10_thing 25 = .ok (.tableswitch 81 0 4 #[35, 42, 52, 61, 71], 35) := by decide +kernel
theorem dX10_thing_60 : decode cX10_thing 60 = .ok (.aload_n 0, 1) := by decide +kernel
theorem dX10_thing_61 : decode cX10_thing 61 = .ok (.getfield 26, 3) := by decide +kernel
theorem dX10_thing_64 : decode cX10_thing 64 = .ok (.iload_n 1, 1) := by decide +kernel
theorem dX10_thing_65 : decode cX10_thing 65 = .ok (.iaload, 1) := by decide +kernel
theorem dX10_thing_66 : decode cX10_thing 66 = .ok (.ireturn, 1) := by decide +kernel
theorem dX10_thing_67 : decode cX10_thing 67 = .ok (.aload_n 0, 1) := by decide +kernel
theorem dX10_thing_68 : decode cX10_thing 68 = .ok (.getfield 66, 3) := by decide +kernel
theorem dX10_thing_71 : decode cX10_thing 71 = .ok (.bipush 31, 2) := by decide +kernel
theorem dX10_thing_73 : decode cX10_thing 73 = .ok (.iload_n 1, 1) := by decide +kernel
theorem dX10_thing_74 : decode cX10_thing 74 = .ok (.iadd, 1) := by decide +kernel
theorem dX10_thing_75 : decode cX10_thing 75 = .ok (.iaload, 1) := by decide +kernel
theorem dX10_thing_76 : decode cX10_thing 76 = .ok (.ireturn, 1) := by decide +kernel
theorem dX10_thing_77 : decode cX10_thing 77 = .ok (.aload_n 0, 1) := by decide +kernel
theorem dX10_thing_78 : decode cX10_thing 78 = .ok (.getfield 66, 3) := by decide +kernel
theorem dX10_thing_81 : decode cX10_thing 81 = .ok (.iconst 1, 1) := by decide +kernel
theorem dX10_thing_82 : decode cX10_thing 82 = .ok (.iload_n 1, 1) := by decide +kernel
theorem dX10_thing_83 : decode cX10_thing 83 = .ok (.iadd, 1) := by decide +kernel
theorem dX10_thing_84 : decode cX10_thing 84 = .ok (.iaload, 1) := by decide +kernel
theorem dX10_thing_85 : decode cX10_thing 85 = .ok (.ireturn, 1) := by decide +kernel
theorem dX10_thing_86 : decode cX10_thing 86 = .ok (.aload_n 0, 1) := by decide +kernel
theorem dX10_thing_87 : decode cX10_thing 87 = .ok (.getfield 66, 3) := by decide +kernel
theorem dX10_thing_90 : decode cX10_thing 90 = .ok (.bipush 11, 2) := by decide +kernel
theorem dX10_thing_92 : decode cX10_thing 92 = .ok (.iload_n 1, 1) := by decide +kernel
theorem dX10_thing_93 : decode cX10_thing 93 = .ok (.iadd, 1) := by decide +kernel
theorem dX10_thing_94 : decode cX10_thing 94 = .ok (.iaload, 1) := by decide +kernel
theorem dX10_thing_95 : decode cX10_thing 95 = .ok (.ireturn, 1) := by decide +kernel
theorem dX10_thing_96 : decode cX10_thing 96 = .ok (.aload_n 0, 1) := by decide +kernel
theorem dX10_thing_97 : decode cX10_thing 97 = .ok (.getfield 66, 3) := by decide +kernel
theorem dX10_thing_100 : decode cX10_thing 100 = .ok (.bipush 21, 2) := by decide +kernel
theorem dX10_thing_102 : decode cX10_thing 102 = .ok (.iload_n 1, 1) := by decide +kernel
theorem dX10_thing_103 : decode cX10_thing 103 = .ok (.iadd, 1) := by decide +kernel
theorem dX10_thing_104 : decode cX10_thing 104 = .ok (.iaload, 1) := by decide +kernel
theorem dX10_thing_105 : decode cX10_thing 105 = .ok (.ireturn, 1) := by decide +kernel
theorem dX10_thing_106 : decode cX10_thing 106 = .ok (.aload_n 0, 1) := by decide +kernel
theorem dX10_thing_107 : decode cX10_thing 107 = .ok (.getfield 66, 3) := by decide +kernel
theorem dX10_thing_110 : decode cX10_thing 110 = .ok (.bipush 11, 2) := by decide +kernel
theorem dX10_thing_112 : decode cX10_thing 112 = .ok (.iload_n 1, 1) := by decide +kernel
theorem dX10_thing_113 : decode cX10_thing 113 = .ok (.iadd, 1) := by decide +kernel
theorem dX10_thing_114 : decode cX10_thing 114 = .ok (.iaload, 1) := by decide +kernel
theorem dX10_thing_115 : decode cX10_thing 115 = .ok (.iconst (-1), 1) := by decide +kernel
theorem dX10_thing_116 : decode cX10_thing 116 = .ok (.if_icmp .ne 7, 3) := by decide +kernel
theorem dX10_thing_119 : decode cX10_thing 119 = .ok (.iconst 0, 1) := by decide +kernel
theorem dX10_thing_120 : decode cX10_thing 120 = .ok (.goto 9, 3) := by decide +kernel
theorem dX10_thing_123 : decode cX10_thing 123 = .ok (.aload_n 0, 1) := by decide +kernel
theorem dX10_thing_124 : decode cX10_thing 124 = .ok (.iconst 0, 1) := by decide +kernel
theorem dX10_thing_125 : decode cX10_thing 125 = .ok (.iload_n 1, 1) := by decide +kernel
theorem dX10_thing_126 : decode cX10_thing 126 = .ok (.invokevirtual 321, 3) := by decide +kernel
theorem dX10_thing_129 : decode cX10_thing 129 = .ok (.ireturn, 1) := by decide +kernel
theorem dX10_days_0 : decode cX10_days 0 = .ok (.aload_n 0, 1) := by decide +kernel
theorem dX10_days_1 : decode cX10_days 1 = .ok (.iconst 0, 1) := by decide +kernel
theorem dX10_days_2 : decode cX10_days 2 = .ok (.putfield 102, 3) := by decide +kernel
theorem dX10_days_5 : decode cX10_days 5 = .ok (.iload_n 1, 1) := by decide +kernel
theorem dX10_days_6 : decode cX10_days 6 = .ok (.iconst 1, 1) := by decide +kernel
theorem dX10_days_7 : decode cX10_days 7 = .ok (.bipush 20, 2) := by decide +kernel
theorem dX10_days_9 : decode cX10_days 9 = .ok (.invokestatic 349, 3) := by decide +kernel
theorem dX10_days_12 : decode cX10_days 12 = .ok (.ifCond .eq 17, 3) := by decide +kernel
theorem dX10_days_15 : decode cX10_days 15 = .ok (.aload_n 0, 1) := by decide +kernel
theorem dX10_days_16 : decode cX10_days 16 = .ok (.getfield 66, 3) := by decide +kernel
theorem dX10_days_19 : decode cX10_days 19 = .ok (.iconst 0, 1) := by decide +kernel
theorem dX10_days_20 : decode cX10_days 20 = .ok (.iaload, 1) := by decide +kernel
theorem dX10_days_21 : decode cX10_days 21 = .ok (.iload_n 1, 1) := by decide +kernel
theorem dX10_days_22 : decode cX10_days 22 = .ok (.iadd, 1) := by decide +kernel
theorem dX10_days_23 : decode cX10_days 23 = .ok (.sipush 9999, 3) := by decide +kernel
theorem dX10_days_26 : decode cX10_days 26 = .ok (.if_icmp .le 9, 3) := by decide +kernel
theorem dX10_days_29 : decode cX10_days 29 = .ok (.aload_n 0, 1) := by decide +kernel
theorem dX10_days_30 : decode cX10_days 30 = .ok (.iconst 1, 1) := by decide +kernel
theorem dX10_days_31 : decode cX10_days 31 = .ok (.invokevirtual 380, 3) := by decide +kernel
theorem dX10_days_34 : decode cX10_days 34 = .ok (.ireturn, 1) := by decide +kernel
theorem dX10_days_35 : decode cX10_days 35 = .ok (.aload_n 0, 1) := by decide +kernel
theorem dX10_days_36 : decode cX10_days 36 = .ok (.invokevirtual 383, 3) := by decide +kernel
theorem dX10_days_39 : decode cX10_days 39 = .ok (.iconst 0, 1) := by decide +kernel
theorem dX10_days_40 : decode cX10_days 40 = .ok (.istore_n 2, 1) := by decide +kernel
theorem dX10_days_41 : decode cX10_days 41 = .ok (.iload_n 2, 1) := by decide +kernel
theorem dX10_days_42 : decode cX10_days 42 = .ok (.iload_n 1, 1) := by decide +kernel
theorem dX10_days_43 : decode cX10_days 43 = .ok (.if_icmp .ge 14, 3) := by decide +kernel
theorem dX10_days_46 : decode cX10_days 46 = .ok (.aload_n 0, 1) := by decide +kernel
theorem dX10_days_47 : decode cX10_days 47 = .ok (.iconst 0, 1) := by decide +kernel
theorem dX10_days_48 : decode cX10_days 48 = .ok (.invokevirtual 343, 3) := by decide +kernel
theorem dX10_days_51 : decode cX10_days 51 = .ok (.iinc 2 1, 3) := by decide +kernel
theorem dX10_days_54 : decode cX10_days 54 = .ok (.goto (-13), 3) := by decide +kernel
theorem dX10_days_57 : decode cX10_days 57 = .ok (.aload_n 0, 1) := by decide +kernel
theorem dX10_days_58 : decode cX10_days 58 = .ok (.getfield 66, 3) := by decide +kernel
theorem dX10_days_61 : decode cX10_days 61 = .ok (.iconst 0, 1) := by decide +kernel
theorem dX10_days_62 : decode cX10_days 62 = .ok (.iaload, 1) := by decide +kernel
theorem dX10_days_63 : decode cX10_days 63 = .ok (.ireturn, 1) := by decide +kernel
theorem dX10_maySteal_0 : decode cX10_maySteal 0 = .ok (.aload_n 0, 1) := by decide +kernel
theorem dX10_maySteal_1 : decode cX10_maySteal 1 = .ok (.getfield 66, 3) := by decide +kernel
theorem dX10_maySteal_4 : decode cX10_maySteal 4 = .ok (.iload_n 1, 1) := by decide +kernel
theorem dX10_maySteal_5 : decode cX10_maySteal 5 = .ok (.iconst 1, 1) := by decide +kernel
theorem dX10_maySteal_6 : decode cX10_maySteal 6 = .ok (.iadd, 1) := by decide +kernel
theorem dX10_maySteal_7 : decode cX10_maySteal 7 = .ok (.iload_n 3, 1) := by decide +kernel
theorem dX10_maySteal_8 : decode cX10_maySteal 8 = .ok (.iadd, 1) := by decide +kernel
theorem dX10_maySteal_9 : decode cX10_maySteal 9 = .ok (.iaload, 1) := by decide +kernel
theorem dX10_maySteal_10 : decode cX10_maySteal 10 = .ok (.iload_n 2, 1) := by decide +kernel
theorem dX10_maySteal_11 : decode cX10_maySteal 11 = .ok (.if_icmp .eq 22, 3) := by decide +kernel
theorem dX10_maySteal_14 : decode cX10_maySteal 14 = .ok (.aload_n 0, 1) := by decide +kernel
theorem dX10_maySteal_15 : decode cX10_maySteal 15 = .ok (.getfield 66, 3) := by decide +kernel
theorem dX10_maySteal_18 : decode cX10_maySteal 18 = .ok (.iload_n 1, 1) := by decide +kernel
theorem dX10_maySteal_19 : decode cX10_maySteal 19 = .ok (.bipush 11, 2) := by decide +kernel
theorem dX10_maySteal_21 : decode cX10_maySteal 21 = .ok (.iadd, 1) := by decide +kernel
theorem dX10_maySteal_22 : decode cX10_maySteal 22 = .ok (.iload_n 3, 1) := by decide +kernel
theorem dX10_maySteal_23 : decode cX10_maySteal 23 = .ok (.iadd, 1) := by decide +kernel
theorem dX10_maySteal_24 : decode cX10_maySteal 24 = .ok (.iaload, 1) := by decide +kernel
theorem dX10_maySteal_25 : decode cX10_maySteal 25 = .ok (.iload_n 2, 1) := by decide +kernel
theorem dX10_maySteal_26 : decode cX10_maySteal 26 = .ok (.if_icmp .eq 7, 3) := by decide +kernel
theorem dX10_maySteal_29 : decode cX10_maySteal 29 = .ok (.iconst 1, 1) := by decide +kernel
theorem dX10_maySteal_30 : decode cX10_maySteal 30 = .ok (.goto 4, 3) := by decide +kernel
theorem dX10_maySteal_33 : decode cX10_maySteal 33 = .ok (.iconst 0, 1) := by decide +kernel
theorem dX10_maySteal_34 : decode cX10_maySteal 34 = .ok (.ireturn, 1) := by decide +kernel
theorem dX10_steals_0 : decode cX10_steals 0 = .ok (.aload_n 0, 1) := by decide +kernel
theorem dX10_steals_1 : decode cX10_steals 1 = .ok (.getfield 66, 3) := by decide +kernel
theorem dX10_steals_4 : decode cX10_steals 4 = .ok (.iload_n 1, 1) := by decide +kernel
theorem dX10_steals_5 : decode cX10_steals 5 = .ok (.bipush 11, 2) := by decide +kernel
theorem dX10_steals_7 : decode cX10_steals 7 = .ok (.iadd, 1) := by decide +kernel
theorem dX10_steals_8 : decode cX10_steals 8 = .ok (.iload_n 3, 1) := by decide +kernel
theorem dX10_steals_9 : decode cX10_steals 9 = .ok (.iadd, 1) := by decide +kernel
theorem dX10_steals_10 : decode cX10_steals 10 = .ok (.iload_n 2, 1) := by decide +kernel
theorem dX10_steals_11 : decode cX10_steals 11 = .ok (.iastore, 1) := by decide +kernel
theorem dX10_steals_12 : decode cX10_steals 12 = .ok (.aload_n 0, 1) := by decide +kernel
theorem dX10_steals_13 : decode cX10_steals 13 = .ok (.getfield 66, 3) := by decide +kernel
theorem dX10_steals_16 : decode cX10_steals 16 = .ok (.iload_n 1, 1) := by decide +kernel
theorem dX10_steals_17 : decode cX10_steals 17 = .ok (.bipush 21, 2) := by decide +kernel
theorem dX10_steals_19 : decode cX10_steals 19 = .ok (.iadd, 1) := by decide +kernel
theorem dX10_steals_20 : decode cX10_steals 20 = .ok (.iload_n 3, 1) := by decide +kernel
theorem dX10_steals_21 : decode cX10_steals 21 = .ok (.iadd, 1) := by decide +kernel
theorem dX10_steals_22 : decode cX10_steals 22 = .ok (.iconst 0, 1) := by decide +kernel
theorem dX10_steals_23 : decode cX10_steals 23 = .ok (.iastore, 1) := by decide +kernel
theorem dX10_steals_24 : decode cX10_steals 24 = .ok (.return_, 1) := by decide +kernel
theorem dX10_steal_0 : decode cX10_steal 0 = .ok (.aload_n 0, 1) := by decide +kernel
theorem dX10_steal_1 : decode cX10_steal 1 = .ok (.iconst 0, 1) := by decide +kernel
theorem dX10_steal_2 : decode cX10_steal 2 = .ok (.putfield 102, 3) := by decide +kernel
theorem dX10_steal_5 : decode cX10_steal 5 = .ok (.aload_n 0, 1) := by decide +kernel
theorem dX10_steal_6 : decode cX10_steal 6 = .ok (.iload_n 1, 1) := by decide +kernel
theorem dX10_steal_7 : decode cX10_steal 7 = .ok (.invokevirtual 362, 3) := by decide +kernel
theorem dX10_steal_10 : decode cX10_steal 10 = .ok (.ifCond .eq 11, 3) := by decide +kernel
theorem dX10_steal_13 : decode cX10_steal 13 = .ok (.aload_n 0, 1) := by decide +kernel
theorem dX10_steal_14 : decode cX10_steal 14 = .ok (.iload_n 2, 1) := by decide +kernel
theorem dX10_steal_15 : decode cX10_steal 15 = .ok (.invokevirtual 377, 3) := by decide +kernel
theorem dX10_steal_18 : decode cX10_steal 18 = .ok (.ifCond .ne 5, 3) := by decide +kernel
theorem dX10_steal_21 : decode cX10_steal 21 = .ok (.iconst 0, 1) := by decide +kernel
theorem dX10_steal_22 : decode cX10_steal 22 = .ok (.ireturn, 1) := by decide +kernel
theorem dX10_steal_23 : decode cX10_steal 23 = .ok (.aload_n 0, 1) := by decide +kernel
theorem dX10_steal_24 : decode cX10_steal 24 = .ok (.getfield 66, 3) := by decide +kernel
theorem dX10_steal_27 : decode cX10_steal 27 = .ok (.bipush 11, 2) := by decide +kernel
theorem dX10_steal_29 : decode cX10_steal 29 = .ok (.iload_n 2, 1) := by decide +kernel
theorem dX10_steal_30 : decode cX10_steal 30 = .ok (.iadd, 1) := by decide +kernel
theorem dX10_steal_31 : decode cX10_steal 31 = .ok (.iaload, 1) := by decide +kernel
theorem dX10_steal_32 : decode cX10_steal 32 = .ok (.istore_n 3, 1) := by decide +kernel
theorem dX10_steal_33 : decode cX10_steal 33 = .ok (.aload_n 0, 1) := by decide +kernel
theorem dX10_steal_34 : decode cX10_steal 34 = .ok (.iconst 0, 1) := by decide +kernel
theorem dX10_steal_35 : decode cX10_steal 35 = .ok (.iload_n 1, 1) := by decide +kernel
theorem dX10_steal_36 : decode cX10_steal 36 = .ok (.iload_n 2, 1) := by decide +kernel
theorem dX10_steal_37 : decode cX10_steal 37 = .ok (.invokevirtual 386, 3) := by decide +kernel
theorem dX10_steal_40 : decode cX10_steal 40 = .ok (.ifCond .ne 11, 3) := by decide +kernel
theorem dX10_steal_43 : decode cX10_steal 43 = .ok (.aload_n 0, 1) := by decide +kernel
theorem dX10_steal_44 : decode cX10_steal 44 = .ok (.iconst 1, 1) := by decide +kernel
theorem dX10_steal_45 : decode cX10_steal 45 = .ok (.invokevirtual 380, 3) := by decide +kernel
theorem dX10_steal_48 : decode cX10_steal 48 = .ok (.iconst 1, 1) := by decide +kernel
theorem dX10_steal_49 : decode cX10_steal 49 = .ok (.isub, 1) := by decide +kernel
theorem dX10_steal_50 : decode cX10_steal 50 = .ok (.ireturn, 1) := by decide +kernel
theorem dX10_steal_51 : decode cX10_steal 51 = .ok (.aload_n 0, 1) := by decide +kernel
theorem dX10_steal_52 : decode cX10_steal 52 = .ok (.invokevirtual 383, 3) := by decide +kernel
theorem dX10_steal_55 : decode cX10_steal 55 = .ok (.aload_n 0, 1) := by decide +kernel
theorem dX10_steal_56 : decode cX10_steal 56 = .ok (.iconst 0, 1) := by decide +kernel
theorem dX10_steal_57 : decode cX10_steal 57 = .ok (.iload_n 1, 1) := by decide +kernel
theorem dX10_steal_58 : decode cX10_steal 58 = .ok (.iload_n 2, 1) := by decide +kernel
theorem dX10_steal_59 : decode cX10_steal 59 = .ok (.invokevirtual 389, 3) := by decide +kernel
theorem dX10_steal_62 : decode cX10_steal 62 = .ok (.iload_n 3, 1) := by decide +kernel
theorem dX10_steal_63 : decode cX10_steal 63 = .ok (.ireturn, 1) := by decide +kernel
theorem dX10_back_0 : decode cX10_back 0 = .ok (.aload_n 0, 1) := by decide +kernel
theorem dX10_back_1 : decode cX10_back 1 = .ok (.iconst 0, 1) := by decide +kernel
theorem dX10_back_2 : decode cX10_back 2 = .ok (.putfield 102, 3) := by decide +kernel
theorem dX10_back_5 : decode cX10_back 5 = .ok (.aload_n 0, 1) := by decide +kernel
theorem dX10_back_6 : decode cX10_back 6 = .ok (.iload_n 1, 1) := by decide +kernel
theorem dX10_back_7 : decode cX10_back 7 = .ok (.invokevirtual 377, 3) := by decide +kernel
theorem dX10_back_10 : decode cX10_back 10 = .ok (.ifCond .ne 5, 3) := by decide +kernel
theorem dX10_back_13 : decode cX10_back 13 = .ok (.iconst 0, 1) := by decide +kernel
theorem dX10_back_14 : decode cX10_back 14 = .ok (.ireturn, 1) := by decide +kernel
theorem dX10_back_15 : decode cX10_back 15 = .ok (.aload_n 0, 1) := by decide +kernel
theorem dX10_back_16 : decode cX10_back 16 = .ok (.getfield 66, 3) := by decide +kernel
theorem dX10_back_19 : decode cX10_back 19 = .ok (.bipush 21, 2) := by decide +kernel
theorem dX10_back_21 : decode cX10_back 21 = .ok (.iload_n 1, 1) := by decide +kernel
theorem dX10_back_22 : decode cX10_back 22 = .ok (.iadd, 1) := by decide +kernel
theorem dX10_back_23 : decode cX10_back 23 = .ok (.iaload, 1) := by decide +kernel
theorem dX10_back_24 : decode cX10_back 24 = .ok (.istore_n 2, 1) := by decide +kernel
theorem dX10_back_25 : decode cX10_back 25 = .ok (.aload_n 0, 1) := by decide +kernel
theorem dX10_back_26 : decode cX10_back 26 = .ok (.getfield 66, 3) := by decide +kernel
theorem dX10_back_29 : decode cX10_back 29 = .ok (.bipush 11, 2) := by decide +kernel
theorem dX10_back_31 : decode cX10_back 31 = .ok (.iload_n 1, 1) := by decide +kernel
theorem dX10_back_32 : decode cX10_back 32 = .ok (.iadd, 1) := by decide +kernel
theorem dX10_back_33 : decode cX10_back 33 = .ok (.iaload, 1) := by decide +kernel
theorem dX10_back_34 : decode cX10_back 34 = .ok (.iconst (-1), 1) := by decide +kernel
theorem dX10_back_35 : decode cX10_back 35 = .ok (.if_icmp .ne 9, 3) := by decide +kernel
theorem dX10_back_38 : decode cX10_back 38 = .ok (.aload_n 0, 1) := by decide +kernel
theorem dX10_back_39 : decode cX10_back 39 = .ok (.iconst 1, 1) := by decide +kernel
theorem dX10_back_40 : decode cX10_back 40 = .ok (.invokevirtual 380, 3) := by decide +kernel
theorem dX10_back_43 : decode cX10_back 43 = .ok (.ireturn, 1) := by decide +kernel
theorem dX10_back_44 : decode cX10_back 44 = .ok (.aload_n 0, 1) := by decide +kernel
theorem dX10_back_45 : decode cX10_back 45 = .ok (.invokevirtual 383, 3) := by decide +kernel
theorem dX10_back_48 : decode cX10_back 48 = .ok (.aload_n 0, 1) := by decide +kernel
theorem dX10_back_49 : decode cX10_back 49 = .ok (.iconst 0, 1) := by decide +kernel
theorem dX10_back_50 : decode cX10_back 50 = .ok (.iload_n 1, 1) := by decide +kernel
theorem dX10_back_51 : decode cX10_back 51 = .ok (.invokevirtual 327, 3) := by decide +kernel
theorem dX10_back_54 : decode cX10_back 54 = .ok (.iload_n 2, 1) := by decide +kernel
theorem dX10_back_55 : decode cX10_back 55 = .ok (.ireturn, 1) := by decide +kernel
theorem dX10_walk_0 : decode cX10_walk 0 = .ok (.aload_n 0, 1) := by decide +kernel
theorem dX10_walk_1 : decode cX10_walk 1 = .ok (.iconst 0, 1) := by decide +kernel
theorem dX10_walk_2 : decode cX10_walk 2 = .ok (.putfield 102, 3) := by decide +kernel
theorem dX10_walk_5 : decode cX10_walk 5 = .ok (.aload_n 0, 1) := by decide +kernel
theorem dX10_walk_6 : decode cX10_walk 6 = .ok (.iload_n 1, 1) := by decide +kernel
theorem dX10_walk_7 : decode cX10_walk 7 = .ok (.invokevirtual 362, 3) := by decide +kernel
theorem dX10_walk_10 : decode cX10_walk 10 = .ok (.ifCond .eq 42, 3) := by decide +kernel
theorem dX10_walk_13 : decode cX10_walk 13 = .ok (.aload_n 0, 1) := by decide +kernel
theorem dX10_walk_14 : decode cX10_walk 14 = .ok (.iload_n 2, 1) := by decide +kernel
theorem dX10_walk_15 : decode cX10_walk 15 = .ok (.ifCond .lt 29, 3) := by decide +kernel
theorem dX10_walk_18 : decode cX10_walk 18 = .ok (.iload_n 2, 1) := by decide +kernel
theorem dX10_walk_19 : decode cX10_walk 19 = .ok (.aload_n 0, 1) := by decide +kernel
theorem dX10_walk_20 : decode cX10_walk 20 = .ok (.getfield 22, 3) := by decide +kernel
theorem dX10_walk_23 : decode cX10_walk 23 = .ok (.iload_n 1, 1) := by decide +kernel
theorem dX10_walk_24 : decode cX10_walk 24 = .ok (.iaload, 1) := by decide +kernel
theorem dX10_walk_25 : decode cX10_walk 25 = .ok (.if_icmp .ge 19, 3) := by decide +kernel
theorem dX10_walk_28 : decode cX10_walk 28 = .ok (.iload_n 3, 1) := by decide +kernel
theorem dX10_walk_29 : decode cX10_walk 29 = .ok (.ifCond .lt 15, 3) := by decide +kernel
theorem dX10_walk_32 : decode cX10_walk 32 = .ok (.iload_n 3, 1) := by decide +kernel
theorem dX10_walk_33 : decode cX10_walk 33 = .ok (.aload_n 0, 1) := by decide +kernel
theorem dX10_walk_34 : decode cX10_walk 34 = .ok (.getfield 7, 3) := by decide +kernel
theorem dX10_walk_37 : decode cX10_walk 37 = .ok (.if_icmp .ge 7, 3) := by decide +kernel
theorem dX10_walk_40 : decode cX10_walk 40 = .ok (.iconst 1, 1) := by decide +kernel
theorem dX10_walk_41 : decode cX10_walk 41 = .ok (.goto 4, 3) := by decide +kernel
theorem dX10_walk_44 : decode cX10_walk 44 = .ok (.iconst 0, 1) := by decide +kernel
theorem dX10_walk_45 : decode cX10_walk 45 = .ok (.iconst 1, 1) := by decide +kernel
theorem dX10_walk_46 : decode cX10_walk 46 = .ok (.invokevirtual 266, 3) := by decide +kernel
theorem dX10_walk_49 : decode cX10_walk 49 = .ok (.ifCond .ne 5, 3) := by decide +kernel
theorem dX10_walk_52 : decode cX10_walk 52 = .ok (.iconst 0, 1) := by decide +kernel
theorem dX10_walk_53 : decode cX10_walk 53 = .ok (.ireturn, 1) := by decide +kernel
theorem dX10_walk_54 : decode cX10_walk 54 = .ok (.bipush 57, 2) := by decide +kernel
theorem dX10_walk_56 : decode cX10_walk 56 = .ok (.bipush 6, 2) := by decide +kernel
theorem dX10_walk_58 : decode cX10_walk 58 = .ok (.iload_n 1, 1) := by decide +kernel
theorem dX10_walk_59 : decode cX10_walk 59 = .ok (.imul, 1) := by decide +kernel
theorem dX10_walk_60 : decode cX10_walk 60 = .ok (.iadd, 1) := by decide +kernel
theorem dX10_walk_61 : decode cX10_walk 61 = .ok (.iload_n 2, 1) := by decide +kernel
theorem dX10_walk_62 : decode cX10_walk 62 = .ok (.iadd, 1) := by decide +kernel
theorem dX10_walk_63 : decode cX10_walk 63 = .ok (.istore 4, 2) := by decide +kernel
theorem dX10_walk_65 : decode cX10_walk 65 = .ok (.aload_n 0, 1) := by decide +kernel
theorem dX10_walk_66 : decode cX10_walk 66 = .ok (.getfield 66, 3) := by decide +kernel
theorem dX10_walk_69 : decode cX10_walk 69 = .ok (.iload 4, 2) := by decide +kernel
theorem dX10_walk_71 : decode cX10_walk 71 = .ok (.iaload, 1) := by decide +kernel
theorem dX10_walk_72 : decode cX10_walk 72 = .ok (.istore 5, 2) := by decide +kernel
theorem dX10_walk_74 : decode cX10_walk 74 = .ok (.iload 5, 2) := by decide +kernel
theorem dX10_walk_76 : decode cX10_walk 76 = .ok (.iload_n 3, 1) := by decide +kernel
theorem dX10_walk_77 : decode cX10_walk 77 = .ok (.if_icmp .ne 9, 3) := by decide +kernel
theorem dX10_walk_80 : decode cX10_walk 80 = .ok (.aload_n 0, 1) := by decide +kernel
theorem dX10_walk_81 : decode cX10_walk 81 = .ok (.iconst 1, 1) := by decide +kernel
theorem dX10_walk_82 : decode cX10_walk 82 = .ok (.invokevirtual 380, 3) := by decide +kernel
theorem dX10_walk_85 : decode cX10_walk 85 = .ok (.ireturn, 1) := by decide +kernel
theorem dX10_walk_86 : decode cX10_walk 86 = .ok (.aload_n 0, 1) := by decide +kernel
theorem dX10_walk_87 : decode cX10_walk 87 = .ok (.invokevirtual 383, 3) := by decide +kernel
theorem dX10_walk_90 : decode cX10_walk 90 = .ok (.aload_n 0, 1) := by decide +kernel
theorem dX10_walk_91 : decode cX10_walk 91 = .ok (.getfield 66, 3) := by decide +kernel
theorem dX10_walk_94 : decode cX10_walk 94 = .ok (.iload 4, 2) := by decide +kernel
theorem dX10_walk_96 : decode cX10_walk 96 = .ok (.iload_n 3, 1) := by decide +kernel
theorem dX10_walk_97 : decode cX10_walk 97 = .ok (.iastore, 1) := by decide +kernel
theorem dX10_walk_98 : decode cX10_walk 98 = .ok (.iload 5, 2) := by decide +kernel
theorem dX10_walk_100 : decode cX10_walk 100 = .ok (.ireturn, 1) := by decide +kernel
theorem dX10_dye_0 : decode cX10_dye 0 = .ok (.aload_n 0, 1) := by decide +kernel
theorem dX10_dye_1 : decode cX10_dye 1 = .ok (.iconst 0, 1) := by decide +kernel
theorem dX10_dye_2 : decode cX10_dye 2 = .ok (.putfield 102, 3) := by decide +kernel
theorem dX10_dye_5 : decode cX10_dye 5 = .ok (.aload_n 0, 1) := by decide +kernel
theorem dX10_dye_6 : decode cX10_dye 6 = .ok (.iload_n 1, 1) := by decide +kernel
theorem dX10_dye_7 : decode cX10_dye 7 = .ok (.invokevirtual 377, 3) := by decide +kernel
theorem dX10_dye_10 : decode cX10_dye 10 = .ok (.ifCond .ne 5, 3) := by decide +kernel
theorem dX10_dye_13 : decode cX10_dye 13 = .ok (.iconst 0, 1) := by decide +kernel
theorem dX10_dye_14 : decode cX10_dye 14 = .ok (.ireturn, 1) := by decide +kernel
theorem dX10_dye_15 : decode cX10_dye 15 = .ok (.aload_n 0, 1) := by decide +kernel
theorem dX10_dye_16 : decode cX10_dye 16 = .ok (.getfield 66, 3) := by decide +kernel
theorem dX10_dye_19 : decode cX10_dye 19 = .ok (.bipush 31, 2) := by decide +kernel
theorem dX10_dye_21 : decode cX10_dye 21 = .ok (.iload_n 1, 1) := by decide +kernel
theorem dX10_dye_22 : decode cX10_dye 22 = .ok (.iadd, 1) := by decide +kernel
theorem dX10_dye_23 : decode cX10_dye 23 = .ok (.iaload, 1) := by decide +kernel
theorem dX10_dye_24 : decode cX10_dye 24 = .ok (.istore_n 3, 1) := by decide +kernel
theorem dX10_dye_25 : decode cX10_dye 25 = .ok (.iload_n 2, 1) := by decide +kernel
theorem dX10_dye_26 : decode cX10_dye 26 = .ok (.iconst 0, 1) := by decide +kernel
theorem dX10_dye_27 : decode cX10_dye 27 = .ok (.bipush 9, 2) := by decide +kernel
theorem dX10_dye_29 : decode cX10_dye 29 = .ok (.invokestatic 349, 3) := by decide +kernel
theorem dX10_dye_32 : decode cX10_dye 32 = .ok (.ifCond .ne 9, 3) := by decide +kernel
theorem dX10_dye_35 : decode cX10_dye 35 = .ok (.aload_n 0, 1) := by decide +kernel
theorem dX10_dye_36 : decode cX10_dye 36 = .ok (.iconst 1, 1) := by decide +kernel
theorem dX10_dye_37 : decode cX10_dye 37 = .ok (.invokevirtual 380, 3) := by decide +kernel
theorem dX10_dye_40 : decode cX10_dye 40 = .ok (.ireturn, 1) := by decide +kernel
theorem dX10_dye_41 : decode cX10_dye 41 = .ok (.aload_n 0, 1) := by decide +kernel
theorem dX10_dye_42 : decode cX10_dye 42 = .ok (.invokevirtual 383, 3) := by decide +kernel
theorem dX10_dye_45 : decode cX10_dye 45 = .ok (.aload_n 0, 1) := by decide +kernel
theorem dX10_dye_46 : decode cX10_dye 46 = .ok (.getfield 66, 3) := by decide +kernel
theorem dX10_dye_49 : decode cX10_dye 49 = .ok (.bipush 31, 2) := by decide +kernel
theorem dX10_dye_51 : decode cX10_dye 51 = .ok (.iload_n 1, 1) := by decide +kernel
theorem dX10_dye_52 : decode cX10_dye 52 = .ok (.iadd, 1) := by decide +kernel
theorem dX10_dye_53 : decode cX10_dye 53 = .ok (.iload_n 2, 1) := by decide +kernel
theorem dX10_dye_54 : decode cX10_dye 54 = .ok (.iastore, 1) := by decide +kernel
theorem dX10_dye_55 : decode cX10_dye 55 = .ok (.iload_n 3, 1) := by decide +kernel
theorem dX10_dye_56 : decode cX10_dye 56 = .ok (.ireturn, 1) := by decide +kernel
theorem dX10_goesTo_0 : decode cX10_goesTo 0 = .ok (.aload_n 0, 1) := by decide +kernel
theorem dX10_goesTo_1 : decode cX10_goesTo 1 = .ok (.invokevirtual 393, 3) := by decide +kernel
theorem dX10_goesTo_4 : decode cX10_goesTo 4 = .ok (.aload_n 0, 1) := by decide +kernel
theorem dX10_goesTo_5 : decode cX10_goesTo 5 = .ok (.iload_n 1, 1) := by decide +kernel
theorem dX10_goesTo_6 : decode cX10_goesTo 6 = .ok (.invokevirtual 396, 3) := by decide +kernel
theorem dX10_goesTo_9 : decode cX10_goesTo 9 = .ok (.return_, 1) := by decide +kernel
theorem dX10_then_0 : decode cX10_then 0 = .ok (.aload_n 0, 1) := by decide +kernel
theorem dX10_then_1 : decode cX10_then 1 = .ok (.iconst 0, 1) := by decide +kernel
theorem dX10_then_2 : decode cX10_then 2 = .ok (.putfield 102, 3) := by decide +kernel
theorem dX10_then_5 : decode cX10_then 5 = .ok (.aload_n 0, 1) := by decide +kernel
theorem dX10_then_6 : decode cX10_then 6 = .ok (.iload_n 1, 1) := by decide +kernel
theorem dX10_then_7 : decode cX10_then 7 = .ok (.invokevirtual 377, 3) := by decide +kernel
theorem dX10_then_10 : decode cX10_then 10 = .ok (.ifCond .eq 22, 3) := by decide +kernel
theorem dX10_then_13 : decode cX10_then 13 = .ok (.aload_n 0, 1) := by decide +kernel
theorem dX10_then_14 : decode cX10_then 14 = .ok (.iload_n 3, 1) := by decide +kernel
theorem dX10_then_15 : decode cX10_then 15 = .ok (.iconst 2, 1) := by decide +kernel
theorem dX10_then_16 : decode cX10_then 16 = .ok (.invokevirtual 365, 3) := by decide +kernel
theorem dX10_then_19 : decode cX10_then 19 = .ok (.ifCond .eq 13, 3) := by decide +kernel
theorem dX10_then_22 : decode cX10_then 22 = .ok (.aload_n 0, 1) := by decide +kernel
theorem dX10_then_23 : decode cX10_then 23 = .ok (.iload_n 2, 1) := by decide +kernel
theorem dX10_then_24 : decode cX10_then 24 = .ok (.iconst 0, 1) := by decide +kernel
theorem dX10_then_25 : decode cX10_then 25 = .ok (.iconst 2, 1) := by decide +kernel
theorem dX10_then_26 : decode cX10_then 26 = .ok (.invokevirtual 399, 3) := by decide +kernel
theorem dX10_then_29 : decode cX10_then 29 = .ok (.ifCond .ne 5, 3) := by decide +kernel
theorem dX10_then_32 : decode cX10_then 32 = .ok (.iconst 0, 1) := by decide +kernel
theorem dX10_then_33 : decode cX10_then 33 = .ok (.ireturn, 1) := by decide +kernel
theorem dX10_then_34 : decode cX10_then 34 = .ok (.aload_n 0, 1) := by decide +kernel
theorem dX10_then_35 : decode cX10_then 35 = .ok (.iload_n 2, 1) := by decide +kernel
theorem dX10_then_36 : decode cX10_then 36 = .ok (.invokevirtual 402, 3) := by decide +kernel
theorem dX10_then_39 : decode cX10_then 39 = .ok (.aload_n 0, 1) := by decide +kernel
theorem dX10_then_40 : decode cX10_then 40 = .ok (.getfield 66, 3) := by decide +kernel
theorem dX10_then_43 : decode cX10_then 43 = .ok (.bipush 105, 2) := by decide +kernel
theorem dX10_then_45 : decode cX10_then 45 = .ok (.iload_n 3, 1) := by decide +kernel
theorem dX10_then_46 : decode cX10_then 46 = .ok (.ifCond .ne 8, 3) := by decide +kernel
theorem dX10_then_49 : decode cX10_then 49 = .ok (.bipush 11, 2) := by decide +kernel
theorem dX10_then_51 : decode cX10_then 51 = .ok (.goto 14, 3) := by decide +kernel
theorem dX10_then_54 : decode cX10_then 54 = .ok (.iload_n 3, 1) := by decide +kernel
theorem dX10_then_55 : decode cX10_then 55 = .ok (.iconst 1, 1) := by decide +kernel
theorem dX10_then_56 : decode cX10_then 56 = .ok (.if_icmp .ne 7, 3) := by decide +kernel
theorem dX10_then_59 : decode cX10_then 59 = .ok (.iconst 1, 1) := by decide +kernel
theorem dX10_then_60 : decode cX10_then 60 = .ok (.goto 5, 3) := by decide +kernel
theorem dX10_then_63 : decode cX10_then 63 = .ok (.bipush 21, 2) := by decide +kernel
theorem dX10_then_65 : decode cX10_then 65 = .ok (.iadd, 1) := by decide +kernel
theorem dX10_then_66 : decode cX10_then 66 = .ok (.iload_n 1, 1) := by decide +kernel
theorem dX10_then_67 : decode cX10_then 67 = .ok (.iadd, 1) := by decide +kernel
theorem dX10_then_68 : decode cX10_then 68 = .ok (.iaload, 1) := by decide +kernel
theorem dX10_then_69 : decode cX10_then 69 = .ok (.ireturn, 1) := by decide +kernel
theorem dX10_later_0 : decode cX10_later 0 = .ok (.aload_n 0, 1) := by decide +kernel
theorem dX10_later_1 : decode cX10_later 1 = .ok (.iconst 0, 1) := by decide +kernel
theorem dX10_later_2 : decode cX10_later 2 = .ok (.putfield 102, 3) := by decide +kernel
theorem dX10_later_5 : decode cX10_later 5 = .ok (.aload_n 0, 1) := by decide +kernel
theorem dX10_later_6 : decode cX10_later 6 = .ok (.iload_n 1, 1) := by decide +kernel
theorem dX10_later_7 : decode cX10_later 7 = .ok (.invokevirtual 362, 3) := by decide +kernel
theorem dX10_later_10 : decode cX10_later 10 = .ok (.ifCond .eq 22, 3) := by decide +kernel
theorem dX10_later_13 : decode cX10_later 13 = .ok (.aload_n 0, 1) := by decide +kernel
theorem dX10_later_14 : decode cX10_later 14 = .ok (.iload_n 3, 1) := by decide +kernel
theorem dX10_later_15 : decode cX10_later 15 = .ok (.iconst 1, 1) := by decide +kernel
theorem dX10_later_16 : decode cX10_later 16 = .ok (.invokevirtual 365, 3) := by decide +kernel
theorem dX10_later_19 : decode cX10_later 19 = .ok (.ifCond .eq 13, 3) := by decide +kernel
theorem dX10_later_22 : decode cX10_later 22 = .ok (.aload_n 0, 1) := by decide +kernel
theorem dX10_later_23 : decode cX10_later 23 = .ok (.iload_n 2, 1) := by decide +kernel
theorem dX10_later_24 : decode cX10_later 24 = .ok (.iconst 0, 1) := by decide +kernel
theorem dX10_later_25 : decode cX10_later 25 = .ok (.iconst 2, 1) := by decide +kernel
theorem dX10_later_26 : decode cX10_later 26 = .ok (.invokevirtual 399, 3) := by decide +kernel
theorem dX10_later_29 : decode cX10_later 29 = .ok (.ifCond .ne 5, 3) := by decide +kernel
theorem dX10_later_32 : decode cX10_later 32 = .ok (.iconst 0, 1) := by decide +kernel
theorem dX10_later_33 : decode cX10_later 33 = .ok (.ireturn, 1) := by decide +kernel
theorem dX10_later_34 : decode cX10_later 34 = .ok (.aload_n 0, 1) := by decide +kernel
theorem dX10_later_35 : decode cX10_later 35 = .ok (.iload_n 2, 1) := by decide +kernel
theorem dX10_later_36 : decode cX10_later 36 = .ok (.invokevirtual 402, 3) := by decide +kernel
theorem dX10_later_39 : decode cX10_later 39 = .ok (.iload_n 3, 1) := by decide +kernel
theorem dX10_later_40 : decode cX10_later 40 = .ok (.ifCond .ne 16, 3) := by decide +kernel
theorem dX10_later_43 : decode cX10_later 43 = .ok (.aload_n 0, 1) := by decide +kernel
theorem dX10_later_44 : decode cX10_later 44 = .ok (.getfield 66, 3) := by decide +kernel
theorem dX10_later_47 : decode cX10_later 47 = .ok (.sipush 146, 3) := by decide +kernel
theorem dX10_later_50 : decode cX10_later 50 = .ok (.iload_n 1, 1) := by decide +kernel
theorem dX10_later_51 : decode cX10_later 51 = .ok (.iadd, 1) := by decide +kernel
theorem dX10_later_52 : decode cX10_later 52 = .ok (.iaload, 1) := by decide +kernel
theorem dX10_later_53 : decode cX10_later 53 = .ok (.goto 14, 3) := by decide +kernel
theorem dX10_later_56 : decode cX10_later 56 = .ok (.aload_n 0, 1) := by decide +kernel
theorem dX10_later_57 : decode cX10_later 57 = .ok (.aload_n 0, 1) := by decide +kernel
theorem dX10_later_58 : decode cX10_later 58 = .ok (.bipush 105, 2) := by decide +kernel
theorem dX10_later_60 : decode cX10_later 60 = .ok (.iload_n 1, 1) := by decide +kernel
theorem dX10_later_61 : decode cX10_later 61 = .ok (.invokevirtual 371, 3) := by decide +kernel
theorem dX10_later_64 : decode cX10_later 64 = .ok (.invokevirtual 368, 3) := by decide +kernel
theorem dX10_later_67 : decode cX10_later 67 = .ok (.ireturn, 1) := by decide +kernel
theorem dX10_ownIn_0 : decode cX10_ownIn 0 = .ok (.aload_n 0, 1) := by decide +kernel
theorem dX10_ownIn_1 : decode cX10_ownIn 1 = .ok (.getfield 66, 3) := by decide +kernel
theorem dX10_ownIn_4 : decode cX10_ownIn 4 = .ok (.bipush 116, 2) := by decide +kernel
theorem dX10_ownIn_6 : decode cX10_ownIn 6 = .ok (.iload_n 1, 1) := by decide +kernel
theorem dX10_ownIn_7 : decode cX10_ownIn 7 = .ok (.iadd, 1) := by decide +kernel
theorem dX10_ownIn_8 : decode cX10_ownIn 8 = .ok (.iaload, 1) := by decide +kernel
theorem dX10_ownIn_9 : decode cX10_ownIn 9 = .ok (.istore_n 3, 1) := by decide +kernel
theorem dX10_ownIn_10 : decode cX10_ownIn 10 = .ok (.iconst 1, 1) := by decide +kernel
theorem dX10_ownIn_11 : decode cX10_ownIn 11 = .ok (.istore 4, 2) := by decide +kernel
theorem dX10_ownIn_13 : decode cX10_ownIn 13 = .ok (.iload 4, 2) := by decide +kernel
theorem dX10_ownIn_15 : decode cX10_ownIn 15 = .ok (.bipush 100, 2) := by decide +kernel
theorem dX10_ownIn_17 : decode cX10_ownIn 17 = .ok (.if_icmp .gt 62, 3) := by decide +kernel
theorem dX10_ownIn_20 : decode cX10_ownIn 20 = .ok (.aload_n 0, 1) := by decide +kernel
theorem dX10_ownIn_21 : decode cX10_ownIn 21 = .ok (.bipush 105, 2) := by decide +kernel
theorem dX10_ownIn_23 : decode cX10_ownIn 23 = .ok (.invokevirtual 343, 3) := by decide +kernel
theorem dX10_ownIn_26 : decode cX10_ownIn 26 = .ok (.aload_n 0, 1) := by decide +kernel
theorem dX10_ownIn_27 : decode cX10_ownIn 27 = .ok (.getfield 66, 3) := by decide +kernel
theorem dX10_ownIn_30 : decode cX10_ownIn 30 = .ok (.bipush 116, 2) := by decide +kernel
theorem dX10_ownIn_32 : decode cX10_ownIn 32 = .ok (.iload_n 1, 1) := by decide +kernel
theorem dX10_ownIn_33 : decode cX10_ownIn 33 = .ok (.iadd, 1) := by decide +kernel
theorem dX10_ownIn_34 : decode cX10_ownIn 34 = .ok (.iaload, 1) := by decide +kernel
theorem dX10_ownIn_35 : decode cX10_ownIn 35 = .ok (.iconst (-1), 1) := by decide +kernel
theorem dX10_ownIn_36 : decode cX10_ownIn 36 = .ok (.if_icmp .eq 6, 3) := by decide +kernel
theorem dX10_ownIn_39 : decode cX10_ownIn 39 = .ok (.goto 34, 3) := by decide +kernel
theorem dX10_ownIn_42 : decode cX10_ownIn 42 = .ok (.aload_n 0, 1) := by decide +kernel
theorem dX10_ownIn_43 : decode cX10_ownIn 43 = .ok (.getfield 66, 3) := by decide +kernel
theorem dX10_ownIn_46 : decode cX10_ownIn 46 = .ok (.bipush 106, 2) := by decide +kernel
theorem dX10_ownIn_48 : decode cX10_ownIn 48 = .ok (.iload_n 1, 1) := by decide +kernel
theorem dX10_ownIn_49 : decode cX10_ownIn 49 = .ok (.iadd, 1) := by decide +kernel
theorem dX10_ownIn_50 : decode cX10_ownIn 50 = .ok (.iaload, 1) := by decide +kernel
theorem dX10_ownIn_51 : decode cX10_ownIn 51 = .ok (.iload_n 3, 1) := by decide +kernel
theorem dX10_ownIn_52 : decode cX10_ownIn 52 = .ok (.if_icmp .ne 7, 3) := by decide +kernel
theorem dX10_ownIn_55 : decode cX10_ownIn 55 = .ok (.iconst 1, 1) := by decide +kernel
theorem dX10_ownIn_56 : decode cX10_ownIn 56 = .ok (.goto 4, 3) := by decide +kernel
theorem dX10_ownIn_59 : decode cX10_ownIn 59 = .ok (.iconst 0, 1) := by decide +kernel
theorem dX10_ownIn_60 : decode cX10_ownIn 60 = .ok (.iload_n 2, 1) := by decide +kernel
theorem dX10_ownIn_61 : decode cX10_ownIn 61 = .ok (.if_icmp .ne 8, 3) := by decide +kernel
theorem dX10_ownIn_64 : decode cX10_ownIn 64 = .ok (.iload 4, 2) := by decide +kernel
theorem dX10_ownIn_66 : decode cX10_ownIn 66 = .ok (.goto 6, 3) := by decide +kernel
theorem dX10_ownIn_69 : decode cX10_ownIn 69 = .ok (.ldc_w 405, 3) := by decide +kernel
theorem dX10_ownIn_72 : decode cX10_ownIn 72 = .ok (.ireturn, 1) := by decide +kernel
theorem dX10_ownIn_73 : decode cX10_ownIn 73 = .ok (.iinc 4 1, 3) := by decide +kernel
theorem dX10_ownIn_76 : decode cX10_ownIn 76 = .ok (.goto (-63), 3) := by decide +kernel
theorem dX10_ownIn_79 : decode cX10_ownIn 79 = .ok (.ldc_w 405, 3) := by decide +kernel
theorem dX10_ownIn_82 : decode cX10_ownIn 82 = .ok (.ireturn, 1) := by decide +kernel
theorem dX10_orNone_0 : decode cX10_orNone 0 = .ok (.iload_n 0, 1) := by decide +kernel
theorem dX10_orNone_1 : decode cX10_orNone 1 = .ok (.ldc_w 405, 3) := by decide +kernel
theorem dX10_orNone_4 : decode cX10_orNone 4 = .ok (.if_icmp .lt 7, 3) := by decide +kernel
theorem dX10_orNone_7 : decode cX10_orNone 7 = .ok (.iconst (-1), 1) := by decide +kernel
theorem dX10_orNone_8 : decode cX10_orNone 8 = .ok (.goto 4, 3) := by decide +kernel
theorem dX10_orNone_11 : decode cX10_orNone 11 = .ok (.iload_n 0, 1) := by decide +kernel
theorem dX10_orNone_12 : decode cX10_orNone 12 = .ok (.ireturn, 1) := by decide +kernel
theorem dX10_when_0 : decode cX10_when 0 = .ok (.aload_n 0, 1) := by decide +kernel
theorem dX10_when_1 : decode cX10_when 1 = .ok (.iconst 0, 1) := by decide +kernel
theorem dX10_when_2 : decode cX10_when 2 = .ok (.putfield 102, 3) := by decide +kernel
theorem dX10_when_5 : decode cX10_when 5 = .ok (.aload_n 0, 1) := by decide +kernel
theorem dX10_when_6 : decode cX10_when 6 = .ok (.iload_n 1, 1) := by decide +kernel
theorem dX10_when_7 : decode cX10_when 7 = .ok (.invokevirtual 377, 3) := by decide +kernel
theorem dX10_when_10 : decode cX10_when 10 = .ok (.ifCond .eq 12, 3) := by decide +kernel
theorem dX10_when_13 : decode cX10_when 13 = .ok (.aload_n 0, 1) := by decide +kernel
theorem dX10_when_14 : decode cX10_when 14 = .ok (.iload_n 2, 1) := by decide +kernel
theorem dX10_when_15 : decode cX10_when 15 = .ok (.iconst 1, 1) := by decide +kernel
theorem dX10_when_16 : decode cX10_when 16 = .ok (.invokevirtual 365, 3) := by decide +kernel
theorem dX10_when_19 : decode cX10_when 19 = .ok (.ifCond .ne 5, 3) := by decide +kernel
theorem dX10_when_22 : decode cX10_when 22 = .ok (.iconst 0, 1) := by decide +kernel
theorem dX10_when_23 : decode cX10_when 23 = .ok (.ireturn, 1) := by decide +kernel
theorem dX10_when_24 : decode cX10_when 24 = .ok (.aload_n 0, 1) := by decide +kernel
theorem dX10_when_25 : decode cX10_when 25 = .ok (.getfield 66, 3) := by decide +kernel
theorem dX10_when_28 : decode cX10_when 28 = .ok (.bipush 11, 2) := by decide +kernel
theorem dX10_when_30 : decode cX10_when 30 = .ok (.iload_n 1, 1) := by decide +kernel
theorem dX10_when_31 : decode cX10_when 31 = .ok (.iadd, 1) := by decide +kernel
theorem dX10_when_32 : decode cX10_when 32 = .ok (.iaload, 1) := by decide +kernel
theorem dX10_when_33 : decode cX10_when 33 = .ok (.iconst (-1), 1) := by decide +kernel
theorem dX10_when_34 : decode cX10_when 34 = .ok (.if_icmp .ne 5, 3) := by decide +kernel
theorem dX10_when_37 : decode cX10_when 37 = .ok (.iconst (-1), 1) := by decide +kernel
theorem dX10_when_38 : decode cX10_when 38 = .ok (.ireturn, 1) := by decide +kernel
theorem dX10_when_39 : decode cX10_when 39 = .ok (.aload_n 0, 1) := by decide +kernel
theorem dX10_when_40 : decode cX10_when 40 = .ok (.invokevirtual 393, 3) := by decide +kernel
theorem dX10_when_43 : decode cX10_when 43 = .ok (.aload_n 0, 1) := by decide +kernel
theorem dX10_when_44 : decode cX10_when 44 = .ok (.iload_n 1, 1) := by decide +kernel
theorem dX10_when_45 : decode cX10_when 45 = .ok (.iload_n 2, 1) := by decide +kernel
theorem dX10_when_46 : decode cX10_when 46 = .ok (.ifCond .ne 7, 3) := by decide +kernel
theorem dX10_when_49 : decode cX10_when 49 = .ok (.iconst 1, 1) := by decide +kernel
theorem dX10_when_50 : decode cX10_when 50 = .ok (.goto 4, 3) := by decide +kernel
theorem dX10_when_53 : decode cX10_when 53 = .ok (.iconst 0, 1) := by decide +kernel
theorem dX10_when_54 : decode cX10_when 54 = .ok (.invokevirtual 406, 3) := by decide +kernel
theorem dX10_when_57 : decode cX10_when 57 = .ok (.invokestatic 410, 3) := by decide +kernel
theorem dX10_when_60 : decode cX10_when 60 = .ok (.ireturn, 1) := by decide +kernel
theorem dX10_all_0 : decode cX10_all 0 = .ok (.aload_n 0, 1) := by decide +kernel
theorem dX10_all_1 : decode cX10_all 1 = .ok (.iconst 0, 1) := by decide +kernel
theorem dX10_all_2 : decode cX10_all 2 = .ok (.putfield 102, 3) := by decide +kernel
theorem dX10_all_5 : decode cX10_all 5 = .ok (.aload_n 0, 1) := by decide +kernel
theorem dX10_all_6 : decode cX10_all 6 = .ok (.iload_n 2, 1) := by decide +kernel
theorem dX10_all_7 : decode cX10_all 7 = .ok (.iconst 3, 1) := by decide +kernel
theorem dX10_all_8 : decode cX10_all 8 = .ok (.invokevirtual 365, 3) := by decide +kernel
theorem dX10_all_11 : decode cX10_all 11 = .ok (.ifCond .eq 13, 3) := by decide +kernel
theorem dX10_all_14 : decode cX10_all 14 = .ok (.aload_n 0, 1) := by decide +kernel
theorem dX10_all_15 : decode cX10_all 15 = .ok (.iload_n 1, 1) := by decide +kernel
theorem dX10_all_16 : decode cX10_all 16 = .ok (.iconst 0, 1) := by decide +kernel
theorem dX10_all_17 : decode cX10_all 17 = .ok (.iconst 2, 1) := by decide +kernel
theorem dX10_all_18 : decode cX10_all 18 = .ok (.invokevirtual 399, 3) := by decide +kernel
theorem dX10_all_21 : decode cX10_all 21 = .ok (.ifCond .ne 5, 3) := by decide +kernel
theorem dX10_all_24 : decode cX10_all 24 = .ok (.iconst 0, 1) := by decide +kernel
theorem dX10_all_25 : decode cX10_all 25 = .ok (.ireturn, 1) := by decide +kernel
theorem dX10_all_26 : decode cX10_all 26 = .ok (.iconst 0, 1) := by decide +kernel
theorem dX10_all_27 : decode cX10_all 27 = .ok (.istore_n 3, 1) := by decide +kernel
theorem dX10_all_28 : decode cX10_all 28 = .ok (.aload_n 0, 1) := by decide +kernel
theorem dX10_all_29 : decode cX10_all 29 = .ok (.invokevirtual 393, 3) := by decide +kernel
theorem dX10_all_32 : decode cX10_all 32 = .ok (.iconst 0, 1) := by decide +kernel
theorem dX10_all_33 : decode cX10_all 33 = .ok (.istore 4, 2) := by decide +kernel
theorem dX10_all_35 : decode cX10_all 35 = .ok (.iload 4, 2) := by decide +kernel
theorem dX10_all_37 : decode cX10_all 37 = .ok (.iload_n 1, 1) := by decide +kernel
theorem dX10_all_38 : decode cX10_all 38 = .ok (.if_icmp .ge 22, 3) := by decide +kernel
theorem dX10_all_41 : decode cX10_all 41 = .ok (.aload_n 0, 1) := by decide +kernel
theorem dX10_all_42 : decode cX10_all 42 = .ok (.bipush 105, 2) := by decide +kernel
theorem dX10_all_44 : decode cX10_all 44 = .ok (.invokevirtual 343, 3) := by decide +kernel
theorem dX10_all_47 : decode cX10_all 47 = .ok (.iload_n 3, 1) := by decide +kernel
theorem dX10_all_48 : decode cX10_all 48 = .ok (.aload_n 0, 1) := by decide +kernel
theorem dX10_all_49 : decode cX10_all 49 = .ok (.getfield 330, 3) := by decide +kernel
theorem dX10_all_52 : decode cX10_all 52 = .ok (.iadd, 1) := by decide +kernel
theorem dX10_all_53 : decode cX10_all 53 = .ok (.istore_n 3, 1) := by decide +kernel
theorem dX10_all_54 : decode cX10_all 54 = .ok (.iinc 4 1, 3) := by decide +kernel
theorem dX10_all_57 : decode cX10_all 57 = .ok (.goto (-22), 3) := by decide +kernel
theorem dX10_all_60 : decode cX10_all 60 = .ok (.iconst (-1), 1) := by decide +kernel
theorem dX10_all_61 : decode cX10_all 61 = .ok (.istore 4, 2) := by decide +kernel
theorem dX10_all_63 : decode cX10_all 63 = .ok (.iconst (-1), 1) := by decide +kernel
theorem dX10_all_64 : decode cX10_all 64 = .ok (.istore 5, 2) := by decide +kernel
theorem dX10_all_66 : decode cX10_all 66 = .ok (.iconst 0, 1) := by decide +kernel
theorem dX10_all_67 : decode cX10_all 67 = .ok (.istore 6, 2) := by decide +kernel
theorem dX10_all_69 : decode cX10_all 69 = .ok (.iload 6, 2) := by decide +kernel
theorem dX10_all_71 : decode cX10_all 71 = .ok (.aload_n 0, 1) := by decide +kernel
theorem dX10_all_72 : decode cX10_all 72 = .ok (.getfield 273, 3) := by decide +kernel
theorem dX10_all_75 : decode cX10_all 75 = .ok (.if_icmp .ge 81, 3) := by decide +kernel
theorem dX10_all_78 : decode cX10_all 78 = .ok (.iload 4, 2) := by decide +kernel
theorem dX10_all_80 : decode cX10_all 80 = .ok (.iconst (-1), 1) := by decide +kernel
theorem dX10_all_81 : decode cX10_all 81 = .ok (.if_icmp .eq 30, 3) := by decide +kernel
theorem dX10_all_84 : decode cX10_all 84 = .ok (.aload_n 0, 1) := by decide +kernel
theorem dX10_all_85 : decode cX10_all 85 = .ok (.aload_n 0, 1) := by decide +kernel
theorem dX10_all_86 : decode cX10_all 86 = .ok (.bipush 105, 2) := by decide +kernel
theorem dX10_all_88 : decode cX10_all 88 = .ok (.iload 6, 2) := by decide +kernel
theorem dX10_all_90 : decode cX10_all 90 = .ok (.invokevirtual 371, 3) := by decide +kernel
theorem dX10_all_93 : decode cX10_all 93 = .ok (.invokevirtual 368, 3) := by decide +kernel
theorem dX10_all_96 : decode cX10_all 96 = .ok (.aload_n 0, 1) := by decide +kernel
theorem dX10_all_97 : decode cX10_all 97 = .ok (.aload_n 0, 1) := by decide +kernel
theorem dX10_all_98 : decode cX10_all 98 = .ok (.bipush 105, 2) := by decide +kernel
theorem dX10_all_100 : decode cX10_all 100 = .ok (.iload 4, 2) := by decide +kernel
theorem dX10_all_102 : decode cX10_all 102 = .ok (.invokevirtual 371, 3) := by decide +kernel
theorem dX10_all_105 : decode cX10_all 105 = .ok (.invokevirtual 368, 3) := by decide +kernel
theorem dX10_all_108 : decode cX10_all 108 = .ok (.if_icmp .le 7, 3) := by decide +kernel
theorem dX10_all_111 : decode cX10_all 111 = .ok (.iload 6, 2) := by decide +kernel
theorem dX10_all_113 : decode cX10_all 113 = .ok (.istore 4, 2) := by decide +kernel
theorem dX10_all_115 : decode cX10_all 115 = .ok (.iload 5, 2) := by decide +kernel
theorem dX10_all_117 : decode cX10_all 117 = .ok (.iconst (-1), 1) := by decide +kernel
theorem dX10_all_118 : decode cX10_all 118 = .ok (.if_icmp .eq 28, 3) := by decide +kernel
theorem dX10_all_121 : decode cX10_all 121 = .ok (.aload_n 0, 1) := by decide +kernel
theorem dX10_all_122 : decode cX10_all 122 = .ok (.getfield 66, 3) := by decide +kernel
theorem dX10_all_125 : decode cX10_all 125 = .ok (.sipush 146, 3) := by decide +kernel
theorem dX10_all_128 : decode cX10_all 128 = .ok (.iload 6, 2) := by decide +kernel
theorem dX10_all_130 : decode cX10_all 130 = .ok (.iadd, 1) := by decide +kernel
theorem dX10_all_131 : decode cX10_all 131 = .ok (.iaload, 1) := by decide +kernel
theorem dX10_all_132 : decode cX10_all 132 = .ok (.aload_n 0, 1) := by decide +kernel
theorem dX10_all_133 : decode cX10_all 133 = .ok (.getfield 66, 3) := by decide +kernel
theorem dX10_all_136 : decode cX10_all 136 = .ok (.sipush 146, 3) := by decide +kernel
theorem dX10_all_139 : decode cX10_all 139 = .ok (.iload 5, 2) := by decide +kernel
theorem dX10_all_141 : decode cX10_all 141 = .ok (.iadd, 1) := by decide +kernel
theorem dX10_all_142 : decode cX10_all 142 = .ok (.iaload, 1) := by decide +kernel
theorem dX10_all_143 : decode cX10_all 143 = .ok (.if_icmp .le 7, 3) := by decide +kernel
theorem dX10_all_146 : decode cX10_all 146 = .ok (.iload 6, 2) := by decide +kernel
theorem dX10_all_148 : decode cX10_all 148 = .ok (.istore 5, 2) := by decide +kernel
theorem dX10_all_150 : decode cX10_all 150 = .ok (.iinc 6 1, 3) := by decide +kernel
theorem dX10_all_153 : decode cX10_all 153 = .ok (.goto (-84), 3) := by decide +kernel
theorem dX10_all_156 : decode cX10_all 156 = .ok (.iload_n 2, 1) := by decide +kernel
theorem dX10_all_157 : decode cX10_all 157 = .ok (.ifCond .ne 8, 3) := by decide +kernel
theorem dX10_all_160 : decode cX10_all 160 = .ok (.iload 4, 2) := by decide +kernel
theorem dX10_all_162 : decode cX10_all 162 = .ok (.goto 28, 3) := by decide +kernel
theorem dX10_all_165 : decode cX10_all 165 = .ok (.iload_n 2, 1) := by decide +kernel
theorem dX10_all_166 : decode cX10_all 166 = .ok (.iconst 1, 1) := by decide +kernel
theorem dX10_all_167 : decode cX10_all 167 = .ok (.if_icmp .ne 8, 3) := by decide +kernel
theorem dX10_all_170 : decode cX10_all 170 = .ok (.iload 5, 2) := by decide +kernel
theorem dX10_all_172 : decode cX10_all 172 = .ok (.goto 18, 3) := by decide +kernel
theorem dX10_all_175 : decode cX10_all 175 = .ok (.iload_n 2, 1) := by decide +kernel
theorem dX10_all_176 : decode cX10_all 176 = .ok (.iconst 2, 1) := by decide +kernel
theorem dX10_all_177 : decode cX10_all 177 = .ok (.if_icmp .ne 12, 3) := by decide +kernel
theorem dX10_all_180 : decode cX10_all 180 = .ok (.aload_n 0, 1) := by decide +kernel
theorem dX10_all_181 : decode cX10_all 181 = .ok (.bipush 105, 2) := by decide +kernel
theorem dX10_all_183 : decode cX10_all 183 = .ok (.invokevirtual 353, 3) := by decide +kernel
theorem dX10_all_186 : decode cX10_all 186 = .ok (.goto 4, 3) := by decide +kernel
theorem dX10_all_189 : decode cX10_all 189 = .ok (.iload_n 3, 1) := by decide +kernel
theorem dX10_all_190 : decode cX10_all 190 = .ok (.ireturn, 1) := by decide +kernel
theorem dX10_where_0 : decode cX10_where 0 = .ok (.aload_n 0, 1) := by decide +kernel
theorem dX10_where_1 : decode cX10_where 1 = .ok (.iconst 0, 1) := by decide +kernel
theorem dX10_where_2 : decode cX10_where 2 = .ok (.putfield 102, 3) := by decide +kernel
theorem dX10_where_5 : decode cX10_where 5 = .ok (.aload_n 0, 1) := by decide +kernel
theorem dX10_where_6 : decode cX10_where 6 = .ok (.iload_n 1, 1) := by decide +kernel
theorem dX10_where_7 : decode cX10_where 7 = .ok (.invokevirtual 362, 3) := by decide +kernel
theorem dX10_where_10 : decode cX10_where 10 = .ok (.ifCond .eq 22, 3) := by decide +kernel
theorem dX10_where_13 : decode cX10_where 13 = .ok (.aload_n 0, 1) := by decide +kernel
theorem dX10_where_14 : decode cX10_where 14 = .ok (.iload_n 3, 1) := by decide +kernel
theorem dX10_where_15 : decode cX10_where 15 = .ok (.iconst 1, 1) := by decide +kernel
theorem dX10_where_16 : decode cX10_where 16 = .ok (.invokevirtual 365, 3) := by decide +kernel
theorem dX10_where_19 : decode cX10_where 19 = .ok (.ifCond .eq 13, 3) := by decide +kernel
theorem dX10_where_22 : decode cX10_where 22 = .ok (.aload_n 0, 1) := by decide +kernel
theorem dX10_where_23 : decode cX10_where 23 = .ok (.iload_n 2, 1) := by decide +kernel
theorem dX10_where_24 : decode cX10_where 24 = .ok (.iconst 1, 1) := by decide +kernel
theorem dX10_where_25 : decode cX10_where 25 = .ok (.iconst 2, 1) := by decide +kernel
theorem dX10_where_26 : decode cX10_where 26 = .ok (.invokevirtual 399, 3) := by decide +kernel
theorem dX10_where_29 : decode cX10_where 29 = .ok (.ifCond .ne 5, 3) := by decide +kernel
theorem dX10_where_32 : decode cX10_where 32 = .ok (.iconst 0, 1) := by decide +kernel
theorem dX10_where_33 : decode cX10_where 33 = .ok (.ireturn, 1) := by decide +kernel
theorem dX10_where_34 : decode cX10_where 34 = .ok (.aload_n 0, 1) := by decide +kernel
theorem dX10_where_35 : decode cX10_where 35 = .ok (.getfield 66, 3) := by decide +kernel
theorem dX10_where_38 : decode cX10_where 38 = .ok (.iconst 0, 1) := by decide +kernel
theorem dX10_where_39 : decode cX10_where 39 = .ok (.iaload, 1) := by decide +kernel
theorem dX10_where_40 : decode cX10_where 40 = .ok (.iload_n 2, 1) := by decide +kernel
theorem dX10_where_41 : decode cX10_where 41 = .ok (.iadd, 1) := by decide +kernel
theorem dX10_where_42 : decode cX10_where 42 = .ok (.iconst 1, 1) := by decide +kernel
theorem dX10_where_43 : decode cX10_where 43 = .ok (.isub, 1) := by decide +kernel
theorem dX10_where_44 : decode cX10_where 44 = .ok (.istore 4, 2) := by decide +kernel
theorem dX10_where_46 : decode cX10_where 46 = .ok (.iload_n 3, 1) := by decide +kernel
theorem dX10_where_47 : decode cX10_where 47 = .ok (.ifCond .ne 14, 3) := by decide +kernel
theorem dX10_where_50 : decode cX10_where 50 = .ok (.aload_n 0, 1) := by decide +kernel
theorem dX10_where_51 : decode cX10_where 51 = .ok (.iconst 0, 1) := by decide +kernel
theorem dX10_where_52 : decode cX10_where 52 = .ok (.iload_n 1, 1) := by decide +kernel
theorem dX10_where_53 : decode cX10_where 53 = .ok (.iload 4, 2) := by decide +kernel
theorem dX10_where_55 : decode cX10_where 55 = .ok (.invokevirtual 297, 3) := by decide +kernel
theorem dX10_where_58 : decode cX10_where 58 = .ok (.goto 11, 3) := by decide +kernel
theorem dX10_where_61 : decode cX10_where 61 = .ok (.aload_n 0, 1) := by decide +kernel
theorem dX10_where_62 : decode cX10_where 62 = .ok (.iconst 0, 1) := by decide +kernel
theorem dX10_where_63 : decode cX10_where 63 = .ok (.iload_n 1, 1) := by decide +kernel
theorem dX10_where_64 : decode cX10_where 64 = .ok (.iload 4, 2) := by decide +kernel
theorem dX10_where_66 : decode cX10_where 66 = .ok (.invokevirtual 306, 3) := by decide +kernel
theorem dX10_where_69 : decode cX10_where 69 = .ok (.ireturn, 1) := by decide +kernel
theorem dX10_shamed_0 : decode cX10_shamed 0 = .ok (.aload_n 0, 1) := by decide +kernel
theorem dX10_shamed_1 : decode cX10_shamed 1 = .ok (.iconst 0, 1) := by decide +kernel
theorem dX10_shamed_2 : decode cX10_shamed 2 = .ok (.putfield 102, 3) := by decide +kernel
theorem dX10_shamed_5 : decode cX10_shamed 5 = .ok (.aload_n 0, 1) := by decide +kernel
theorem dX10_shamed_6 : decode cX10_shamed 6 = .ok (.iload_n 1, 1) := by decide +kernel
theorem dX10_shamed_7 : decode cX10_shamed 7 = .ok (.invokevirtual 362, 3) := by decide +kernel
theorem dX10_shamed_10 : decode cX10_shamed 10 = .ok (.ifCond .eq 18, 3) := by decide +kernel
theorem dX10_shamed_13 : decode cX10_shamed 13 = .ok (.aload_n 0, 1) := by decide +kernel
theorem dX10_shamed_14 : decode cX10_shamed 14 = .ok (.iload_n 2, 1) := by decide +kernel
theorem dX10_shamed_15 : decode cX10_shamed 15 = .ok (.iconst 1, 1) := by decide +kernel
theorem dX10_shamed_16 : decode cX10_shamed 16 = .ok (.bipush 99, 2) := by decide +kernel
theorem dX10_shamed_18 : decode cX10_shamed 18 = .ok (.invokestatic 349, 3) := by decide +kernel
theorem dX10_shamed_21 : decode cX10_shamed 21 = .ok (.iconst 2, 1) := by decide +kernel
theorem dX10_shamed_22 : decode cX10_shamed 22 = .ok (.invokevirtual 266, 3) := by decide +kernel
theorem dX10_shamed_25 : decode cX10_shamed 25 = .ok (.ifCond .ne 5, 3) := by decide +kernel
theorem dX10_shamed_28 : decode cX10_shamed 28 = .ok (.iconst 0, 1) := by decide +kernel
theorem dX10_shamed_29 : decode cX10_shamed 29 = .ok (.ireturn, 1) := by decide +kernel
theorem dX10_shamed_30 : decode cX10_shamed 30 = .ok (.aload_n 0, 1) := by decide +kernel
theorem dX10_shamed_31 : decode cX10_shamed 31 = .ok (.invokevirtual 393, 3) := by decide +kernel
theorem dX10_shamed_34 : decode cX10_shamed 34 = .ok (.iconst 0, 1) := by decide +kernel
theorem dX10_shamed_35 : decode cX10_shamed 35 = .ok (.istore_n 3, 1) := by decide +kernel
theorem dX10_shamed_36 : decode cX10_shamed 36 = .ok (.iload_n 3, 1) := by decide +kernel
theorem dX10_shamed_37 : decode cX10_shamed 37 = .ok (.bipush 100, 2) := by decide +kernel
theorem dX10_shamed_39 : decode cX10_shamed 39 = .ok (.if_icmp .gt 31, 3) := by decide +kernel
theorem dX10_shamed_42 : decode cX10_shamed 42 = .ok (.aload_n 0, 1) := by decide +kernel
theorem dX10_shamed_43 : decode cX10_shamed 43 = .ok (.getfield 66, 3) := by decide +kernel
theorem dX10_shamed_46 : decode cX10_shamed 46 = .ok (.sipush 146, 3) := by decide +kernel
theorem dX10_shamed_49 : decode cX10_shamed 49 = .ok (.iload_n 1, 1) := by decide +kernel
theorem dX10_shamed_50 : decode cX10_shamed 50 = .ok (.iadd, 1) := by decide +kernel
theorem dX10_shamed_51 : decode cX10_shamed 51 = .ok (.iaload, 1) := by decide +kernel
theorem dX10_shamed_52 : decode cX10_shamed 52 = .ok (.iload_n 2, 1) := by decide +kernel
theorem dX10_shamed_53 : decode cX10_shamed 53 = .ok (.if_icmp .lt 5, 3) := by decide +kernel
theorem dX10_shamed_56 : decode cX10_shamed 56 = .ok (.iload_n 3, 1) := by decide +kernel
theorem dX10_shamed_57 : decode cX10_shamed 57 = .ok (.ireturn, 1) := by decide +kernel
theorem dX10_shamed_58 : decode cX10_shamed 58 = .ok (.aload_n 0, 1) := by decide +kernel
theorem dX10_shamed_59 : decode cX10_shamed 59 = .ok (.bipush 105, 2) := by decide +kernel
theorem dX10_shamed_61 : decode cX10_shamed 61 = .ok (.invokevirtual 343, 3) := by decide +kernel
theorem dX10_shamed_64 : decode cX10_shamed 64 = .ok (.iinc 3 1, 3) := by decide +kernel
theorem dX10_shamed_67 : decode cX10_shamed 67 = .ok (.goto (-31), 3) := by decide +kernel
theorem dX10_shamed_70 : decode cX10_shamed 70 = .ok (.iconst (-1), 1) := by decide +kernel
theorem dX10_shamed_71 : decode cX10_shamed 71 = .ok (.ireturn, 1) := by decide +kernel
theorem dX10_has_0 : decode cX10_has 0 = .ok (.aload_n 0, 1) := by decide +kernel
theorem dX10_has_1 : decode cX10_has 1 = .ok (.iconst 0, 1) := by decide +kernel
theorem dX10_has_2 : decode cX10_has 2 = .ok (.putfield 102, 3) := by decide +kernel
theorem dX10_has_5 : decode cX10_has 5 = .ok (.aload_n 0, 1) := by decide +kernel
theorem dX10_has_6 : decode cX10_has 6 = .ok (.iload_n 1, 1) := by decide +kernel
theorem dX10_has_7 : decode cX10_has 7 = .ok (.invokevirtual 362, 3) := by decide +kernel
theorem dX10_has_10 : decode cX10_has 10 = .ok (.ifCond .eq 13, 3) := by decide +kernel
theorem dX10_has_13 : decode cX10_has 13 = .ok (.aload_n 0, 1) := by decide +kernel
theorem dX10_has_14 : decode cX10_has 14 = .ok (.iload_n 2, 1) := by decide +kernel
theorem dX10_has_15 : decode cX10_has 15 = .ok (.iconst 0, 1) := by decide +kernel
theorem dX10_has_16 : decode cX10_has 16 = .ok (.iconst 2, 1) := by decide +kernel
theorem dX10_has_17 : decode cX10_has 17 = .ok (.invokevirtual 399, 3) := by decide +kernel
theorem dX10_has_20 : decode cX10_has 20 = .ok (.ifCond .ne 5, 3) := by decide +kernel
theorem dX10_has_23 : decode cX10_has 23 = .ok (.iconst 0, 1) := by decide +kernel
theorem dX10_has_24 : decode cX10_has 24 = .ok (.ireturn, 1) := by decide +kernel
theorem dX10_has_25 : decode cX10_has 25 = .ok (.aload_n 0, 1) := by decide +kernel
theorem dX10_has_26 : decode cX10_has 26 = .ok (.iload_n 2, 1) := by decide +kernel
theorem dX10_has_27 : decode cX10_has 27 = .ok (.invokevirtual 402, 3) := by decide +kernel
theorem dX10_has_30 : decode cX10_has 30 = .ok (.aload_n 0, 1) := by decide +kernel
theorem dX10_has_31 : decode cX10_has 31 = .ok (.bipush 105, 2) := by decide +kernel
theorem dX10_has_33 : decode cX10_has 33 = .ok (.iload_n 1, 1) := by decide +kernel
theorem dX10_has_34 : decode cX10_has 34 = .ok (.invokevirtual 371, 3) := by decide +kernel
theorem dX10_has_37 : decode cX10_has 37 = .ok (.ireturn, 1) := by decide +kernel
theorem dX10_takes_0 : decode cX10_takes 0 = .ok (.aload_n 0, 1) := by decide +kernel
theorem dX10_takes_1 : decode cX10_takes 1 = .ok (.iconst 0, 1) := by decide +kernel
theorem dX10_takes_2 : decode cX10_takes 2 = .ok (.putfield 102, 3) := by decide +kernel
theorem dX10_takes_5 : decode cX10_takes 5 = .ok (.aload_n 0, 1) := by decide +kernel
theorem dX10_takes_6 : decode cX10_takes 6 = .ok (.iload_n 1, 1) := by decide +kernel
theorem dX10_takes_7 : decode cX10_takes 7 = .ok (.invokevirtual 362, 3) := by decide +kernel
theorem dX10_takes_10 : decode cX10_takes 10 = .ok (.ifCond .eq 27, 3) := by decide +kernel
theorem dX10_takes_13 : decode cX10_takes 13 = .ok (.aload_n 0, 1) := by decide +kernel
theorem dX10_takes_14 : decode cX10_takes 14 = .ok (.iload_n 2, 1) := by decide +kernel
theorem dX10_takes_15 : decode cX10_takes 15 = .ok (.invokevirtual 362, 3) := by decide +kernel
theorem dX10_takes_18 : decode cX10_takes 18 = .ok (.ifCond .eq 19, 3) := by decide +kernel
theorem dX10_takes_21 : decode cX10_takes 21 = .ok (.aload_n 0, 1) := by decide +kernel
theorem dX10_takes_22 : decode cX10_takes 22 = .ok (.iconst 0, 1) := by decide +kernel
theorem dX10_takes_23 : decode cX10_takes 23 = .ok (.iload_n 1, 1) := by decide +kernel
theorem dX10_takes_24 : decode cX10_takes 24 = .ok (.invokevirtual 300, 3) := by decide +kernel
theorem dX10_takes_27 : decode cX10_takes 27 = .ok (.aload_n 0, 1) := by decide +kernel
theorem dX10_takes_28 : decode cX10_takes 28 = .ok (.iconst 0, 1) := by decide +kernel
theorem dX10_takes_29 : decode cX10_takes 29 = .ok (.iload_n 2, 1) := by decide +kernel
theorem dX10_takes_30 : decode cX10_takes 30 = .ok (.invokevirtual 371, 3) := by decide +kernel
theorem dX10_takes_33 : decode cX10_takes 33 = .ok (.iand, 1) := by decide +kernel
theorem dX10_takes_34 : decode cX10_takes 34 = .ok (.goto 4, 3) := by decide +kernel
theorem dX10_takes_37 : decode cX10_takes 37 = .ok (.iconst 0, 1) := by decide +kernel
theorem dX10_takes_38 : decode cX10_takes 38 = .ok (.ireturn, 1) := by decide +kernel
theorem dX10_quiet_0 : decode cX10_quiet 0 = .ok (.aload_n 0, 1) := by decide +kernel
theorem dX10_quiet_1 : decode cX10_quiet 1 = .ok (.iconst 0, 1) := by decide +kernel
theorem dX10_quiet_2 : decode cX10_quiet 2 = .ok (.putfield 102, 3) := by decide +kernel
theorem dX10_quiet_5 : decode cX10_quiet 5 = .ok (.aload_n 0, 1) := by decide +kernel
theorem dX10_quiet_6 : decode cX10_quiet 6 = .ok (.iload_n 1, 1) := by decide +kernel
theorem dX10_quiet_7 : decode cX10_quiet 7 = .ok (.iconst 0, 1) := by decide +kernel
theorem dX10_quiet_8 : decode cX10_quiet 8 = .ok (.iconst 1, 1) := by decide +kernel
theorem dX10_quiet_9 : decode cX10_quiet 9 = .ok (.invokevirtual 399, 3) := by decide +kernel
theorem dX10_quiet_12 : decode cX10_quiet 12 = .ok (.ifCond .ne 5, 3) := by decide +kernel
theorem dX10_quiet_15 : decode cX10_quiet 15 = .ok (.iconst 0, 1) := by decide +kernel
theorem dX10_quiet_16 : decode cX10_quiet 16 = .ok (.ireturn, 1) := by decide +kernel
theorem dX10_quiet_17 : decode cX10_quiet 17 = .ok (.aload_n 0, 1) := by decide +kernel
theorem dX10_quiet_18 : decode cX10_quiet 18 = .ok (.iconst 0, 1) := by decide +kernel
theorem dX10_quiet_19 : decode cX10_quiet 19 = .ok (.invokevirtual 353, 3) := by decide +kernel
theorem dX10_quiet_22 : decode cX10_quiet 22 = .ok (.istore_n 2, 1) := by decide +kernel
theorem dX10_quiet_23 : decode cX10_quiet 23 = .ok (.aload_n 0, 1) := by decide +kernel
theorem dX10_quiet_24 : decode cX10_quiet 24 = .ok (.invokevirtual 393, 3) := by decide +kernel
theorem dX10_quiet_27 : decode cX10_quiet 27 = .ok (.iconst 0, 1) := by decide +kernel
theorem dX10_quiet_28 : decode cX10_quiet 28 = .ok (.istore_n 3, 1) := by decide +kernel
theorem dX10_quiet_29 : decode cX10_quiet 29 = .ok (.iload_n 3, 1) := by decide +kernel
theorem dX10_quiet_30 : decode cX10_quiet 30 = .ok (.iload_n 1, 1) := by decide +kernel
theorem dX10_quiet_31 : decode cX10_quiet 31 = .ok (.if_icmp .ge 24, 3) := by decide +kernel
theorem dX10_quiet_34 : decode cX10_quiet 34 = .ok (.aload_n 0, 1) := by decide +kernel
theorem dX10_quiet_35 : decode cX10_quiet 35 = .ok (.bipush 105, 2) := by decide +kernel
theorem dX10_quiet_37 : decode cX10_quiet 37 = .ok (.invokevirtual 343, 3) := by decide +kernel
theorem dX10_quiet_40 : decode cX10_quiet 40 = .ok (.iload_n 2, 1) := by decide +kernel
theorem dX10_quiet_41 : decode cX10_quiet 41 = .ok (.aload_n 0, 1) := by decide +kernel
theorem dX10_quiet_42 : decode cX10_quiet 42 = .ok (.bipush 105, 2) := by decide +kernel
theorem dX10_quiet_44 : decode cX10_quiet 44 = .ok (.invokevirtual 353, 3) := by decide +kernel
theorem dX10_quiet_47 : decode cX10_quiet 47 = .ok (.ior, 1) := by decide +kernel
theorem dX10_quiet_48 : decode cX10_quiet 48 = .ok (.istore_n 2, 1) := by decide +kernel
theorem dX10_quiet_49 : decode cX10_quiet 49 = .ok (.iinc 3 1, 3) := by decide +kernel
theorem dX10_quiet_52 : decode cX10_quiet 52 = .ok (.goto (-23), 3) := by decide +kernel
theorem dX10_quiet_55 : decode cX10_quiet 55 = .ok (.iconst 1, 1) := by decide +kernel
theorem dX10_quiet_56 : decode cX10_quiet 56 = .ok (.aload_n 0, 1) := by decide +kernel
theorem dX10_quiet_57 : decode cX10_quiet 57 = .ok (.getfield 276, 3) := by decide +kernel
theorem dX10_quiet_60 : decode cX10_quiet 60 = .ok (.ishl, 1) := by decide +kernel
theorem dX10_quiet_61 : decode cX10_quiet 61 = .ok (.iconst 1, 1) := by decide +kernel
theorem dX10_quiet_62 : decode cX10_quiet 62 = .ok (.isub, 1) := by decide +kernel
theorem dX10_quiet_63 : decode cX10_quiet 63 = .ok (.iload_n 2, 1) := by decide +kernel
theorem dX10_quiet_64 : decode cX10_quiet 64 = .ok (.iconst (-1), 1) := by decide +kernel
theorem dX10_quiet_65 : decode cX10_quiet 65 = .ok (.ixor, 1) := by decide +kernel
theorem dX10_quiet_66 : decode cX10_quiet 66 = .ok (.iand, 1) := by decide +kernel
theorem dX10_quiet_67 : decode cX10_quiet 67 = .ok (.ireturn, 1) := by decide +kernel
theorem dX10_toStand_0 : decode cX10_toStand 0 = .ok (.aload_n 0, 1) := by decide +kernel
theorem dX10_toStand_1 : decode cX10_toStand 1 = .ok (.iconst 0, 1) := by decide +kernel
theorem dX10_toStand_2 : decode cX10_toStand 2 = .ok (.putfield 102, 3) := by decide +kernel
theorem dX10_toStand_5 : decode cX10_toStand 5 = .ok (.aload_n 0, 1) := by decide +kernel
theorem dX10_toStand_6 : decode cX10_toStand 6 = .ok (.iload_n 1, 1) := by decide +kernel
theorem dX10_toStand_7 : decode cX10_toStand 7 = .ok (.invokevirtual 377, 3) := by decide +kernel
theorem dX10_toStand_10 : decode cX10_toStand 10 = .ok (.ifCond .eq 12, 3) := by decide +kernel
theorem dX10_toStand_13 : decode cX10_toStand 13 = .ok (.aload_n 0, 1) := by decide +kernel
theorem dX10_toStand_14 : decode cX10_toStand 14 = .ok (.iload_n 2, 1) := by decide +kernel
theorem dX10_toStand_15 : decode cX10_toStand 15 = .ok (.iconst 1, 1) := by decide +kernel
theorem dX10_toStand_16 : decode cX10_toStand 16 = .ok (.invokevirtual 365, 3) := by decide +kernel
theorem dX10_toStand_19 : decode cX10_toStand 19 = .ok (.ifCond .ne 5, 3) := by decide +kernel
theorem dX10_toStand_22 : decode cX10_toStand 22 = .ok (.iconst 0, 1) := by decide +kernel
theorem dX10_toStand_23 : decode cX10_toStand 23 = .ok (.ireturn, 1) := by decide +kernel
theorem dX10_toStand_24 : decode cX10_toStand 24 = .ok (.iconst (-1), 1) := by decide +kernel
theorem dX10_toStand_25 : decode cX10_toStand 25 = .ok (.istore_n 3, 1) := by decide +kernel
theorem dX10_toStand_26 : decode cX10_toStand 26 = .ok (.ldc_w 405, 3) := by decide +kernel
theorem dX10_toStand_29 : decode cX10_toStand 29 = .ok (.istore 4, 2) := by decide +kernel
theorem dX10_toStand_31 : decode cX10_toStand 31 = .ok (.iconst 0, 1) := by decide +kernel
theorem dX10_toStand_32 : decode cX10_toStand 32 = .ok (.istore 5, 2) := by decide +kernel
theorem dX10_toStand_34 : decode cX10_toStand 34 = .ok (.iload 5, 2) := by decide +kernel
theorem dX10_toStand_36 : decode cX10_toStand 36 = .ok (.aload_n 0, 1) := by decide +kernel
theorem dX10_toStand_37 : decode cX10_toStand 37 = .ok (.getfield 7, 3) := by decide +kernel
theorem dX10_toStand_40 : decode cX10_toStand 40 = .ok (.if_icmp .ge 93, 3) := by decide +kernel
theorem dX10_toStand_43 : decode cX10_toStand 43 = .ok (.aload_n 0, 1) := by decide +kernel
theorem dX10_toStand_44 : decode cX10_toStand 44 = .ok (.getfield 66, 3) := by decide +kernel
theorem dX10_toStand_47 : decode cX10_toStand 47 = .ok (.bipush 11, 2) := by decide +kernel
theorem dX10_toStand_49 : decode cX10_toStand 49 = .ok (.iload_n 1, 1) := by decide +kernel
theorem dX10_toStand_50 : decode cX10_toStand 50 = .ok (.iadd, 1) := by decide +kernel
theorem dX10_toStand_51 : decode cX10_toStand 51 = .ok (.iaload, 1) := by decide +kernel
theorem dX10_toStand_52 : decode cX10_toStand 52 = .ok (.iconst (-1), 1) := by decide +kernel
theorem dX10_toStand_53 : decode cX10_toStand 53 = .ok (.if_icmp .eq 80, 3) := by decide +kernel
theorem dX10_toStand_56 : decode cX10_toStand 56 = .ok (.aload_n 0, 1) := by decide +kernel
theorem dX10_toStand_57 : decode cX10_toStand 57 = .ok (.invokevirtual 393, 3) := by decide +kernel
theorem dX10_toStand_60 : decode cX10_toStand 60 = .ok (.iconst 0, 1) := by decide +kernel
theorem dX10_toStand_61 : decode cX10_toStand 61 = .ok (.istore 6, 2) := by decide +kernel
theorem dX10_toStand_63 : decode cX10_toStand 63 = .ok (.iload 6, 2) := by decide +kernel
theorem dX10_toStand_65 : decode cX10_toStand 65 = .ok (.bipush 6, 2) := by decide +kernel
theorem dX10_toStand_67 : decode cX10_toStand 67 = .ok (.if_icmp .ge 35, 3) := by decide +kernel
theorem dX10_toStand_70 : decode cX10_toStand 70 = .ok (.aload_n 0, 1) := by decide +kernel
theorem dX10_toStand_71 : decode cX10_toStand 71 = .ok (.getfield 66, 3) := by decide +kernel
theorem dX10_toStand_74 : decode cX10_toStand 74 = .ok (.sipush 162, 3) := by decide +kernel
theorem dX10_toStand_77 : decode cX10_toStand 77 = .ok (.bipush 6, 2) := by decide +kernel
theorem dX10_toStand_79 : decode cX10_toStand 79 = .ok (.aload_n 0, 1) := by decide +kernel
theorem dX10_toStand_80 : decode cX10_toStand 80 = .ok (.getfield 66, 3) := by decide +kernel
theorem dX10_toStand_83 : decode cX10_toStand 83 = .ok (.bipush 11, 2) := by decide +kernel
theorem dX10_toStand_85 : decode cX10_toStand 85 = .ok (.iload_n 1, 1) := by decide +kernel
theorem dX10_toStand_86 : decode cX10_toStand 86 = .ok (.iadd, 1) := by decide +kernel
theorem dX10_toStand_87 : decode cX10_toStand 87 = .ok (.iaload, 1) := by decide +kernel
theorem dX10_toStand_88 : decode cX10_toStand 88 = .ok (.imul, 1) := by decide +kernel
theorem dX10_toStand_89 : decode cX10_toStand 89 = .ok (.iadd, 1) := by decide +kernel
theorem dX10_toStand_90 : decode cX10_toStand 90 = .ok (.iload 6, 2) := by decide +kernel
theorem dX10_toStand_92 : decode cX10_toStand 92 = .ok (.iadd, 1) := by decide +kernel
theorem dX10_toStand_93 : decode cX10_toStand 93 = .ok (.iload 5, 2) := by decide +kernel
theorem dX10_toStand_95 : decode cX10_toStand 95 = .ok (.iastore, 1) := by decide +kernel
theorem dX10_toStand_96 : decode cX10_toStand 96 = .ok (.iinc 6 1, 3) := by decide +kernel
theorem dX10_toStand_99 : decode cX10_toStand 99 = .ok (.goto (-36), 3) := by decide +kernel
theorem dX10_toStand_102 : decode cX10_toStand 102 = .ok (.aload_n 0, 1) := by decide +kernel
theorem dX10_toStand_103 : decode cX10_toStand 103 = .ok (.iload_n 1, 1) := by decide +kernel
theorem dX10_toStand_104 : decode cX10_toStand 104 = .ok (.iconst 1, 1) := by decide +kernel
theorem dX10_toStand_105 : decode cX10_toStand 105 = .ok (.invokevirtual 406, 3) := by decide +kernel
theorem dX10_toStand_108 : decode cX10_toStand 108 = .ok (.istore 6, 2) := by decide +kernel
theorem dX10_toStand_110 : decode cX10_toStand 110 = .ok (.iload 6, 2) := by decide +kernel
theorem dX10_toStand_112 : decode cX10_toStand 112 = .ok (.iload 4, 2) := by decide +kernel
theorem dX10_toStand_114 : decode cX10_toStand 114 = .ok (.if_icmp .lt 6, 3) := by decide +kernel
theorem dX10_toStand_117 : decode cX10_toStand 117 = .ok (.goto 10, 3) := by decide +kernel
theorem dX10_toStand_120 : decode cX10_toStand 120 = .ok (.iload 5, 2) := by decide +kernel
theorem dX10_toStand_122 : decode cX10_toStand 122 = .ok (.istore_n 3, 1) := by decide +kernel
theorem dX10_toStand_123 : decode cX10_toStand 123 = .ok (.iload 6, 2) := by decide +kernel
theorem dX10_toStand_125 : decode cX10_toStand 125 = .ok (.istore 4, 2) := by decide +kernel
theorem dX10_toStand_127 : decode cX10_toStand 127 = .ok (.iinc 5 1, 3) := by decide +kernel
theorem dX10_toStand_130 : decode cX10_toStand 130 = .ok (.goto (-96), 3) := by decide +kernel
theorem dX10_toStand_133 : decode cX10_toStand 133 = .ok (.iload_n 2, 1) := by decide +kernel
theorem dX10_toStand_134 : decode cX10_toStand 134 = .ok (.ifCond .ne 7, 3) := by decide +kernel
theorem dX10_toStand_137 : decode cX10_toStand 137 = .ok (.iload_n 3, 1) := by decide +kernel
theorem dX10_toStand_138 : decode cX10_toStand 138 = .ok (.goto 8, 3) := by decide +kernel
theorem dX10_toStand_141 : decode cX10_toStand 141 = .ok (.iload 4, 2) := by decide +kernel
theorem dX10_toStand_143 : decode cX10_toStand 143 = .ok (.invokestatic 410, 3) := by decide +kernel
theorem dX10_toStand_146 : decode cX10_toStand 146 = .ok (.ireturn, 1) := by decide +kernel
theorem dX10_toSteal_0 : decode cX10_toSteal 0 = .ok (.aload_n 0, 1) := by decide +kernel
theorem dX10_toSteal_1 : decode cX10_toSteal 1 = .ok (.iconst 0, 1) := by decide +kernel
theorem dX10_toSteal_2 : decode cX10_toSteal 2 = .ok (.putfield 102, 3) := by decide +kernel
theorem dX10_toSteal_5 : decode cX10_toSteal 5 = .ok (.aload_n 0, 1) := by decide +kernel
theorem dX10_toSteal_6 : decode cX10_toSteal 6 = .ok (.iload_n 1, 1) := by decide +kernel
theorem dX10_toSteal_7 : decode cX10_toSteal 7 = .ok (.invokevirtual 362, 3) := by decide +kernel
theorem dX10_toSteal_10 : decode cX10_toSteal 10 = .ok (.ifCond .eq 12, 3) := by decide +kernel
theorem dX10_toSteal_13 : decode cX10_toSteal 13 = .ok (.aload_n 0, 1) := by decide +kernel
theorem dX10_toSteal_14 : decode cX10_toSteal 14 = .ok (.iload_n 2, 1) := by decide +kernel
theorem dX10_toSteal_15 : decode cX10_toSteal 15 = .ok (.iconst 1, 1) := by decide +kernel
theorem dX10_toSteal_16 : decode cX10_toSteal 16 = .ok (.invokevirtual 365, 3) := by decide +kernel
theorem dX10_toSteal_19 : decode cX10_toSteal 19 = .ok (.ifCond .ne 5, 3) := by decide +kernel
theorem dX10_toSteal_22 : decode cX10_toSteal 22 = .ok (.iconst 0, 1) := by decide +kernel
theorem dX10_toSteal_23 : decode cX10_toSteal 23 = .ok (.ireturn, 1) := by decide +kernel
theorem dX10_toSteal_24 : decode cX10_toSteal 24 = .ok (.iconst (-1), 1) := by decide +kernel
theorem dX10_toSteal_25 : decode cX10_toSteal 25 = .ok (.istore_n 3, 1) := by decide +kernel
theorem dX10_toSteal_26 : decode cX10_toSteal 26 = .ok (.ldc_w 405, 3) := by decide +kernel
theorem dX10_toSteal_29 : decode cX10_toSteal 29 = .ok (.istore 4, 2) := by decide +kernel
theorem dX10_toSteal_31 : decode cX10_toSteal 31 = .ok (.iconst 0, 1) := by decide +kernel
theorem dX10_toSteal_32 : decode cX10_toSteal 32 = .ok (.istore 5, 2) := by decide +kernel
theorem dX10_toSteal_34 : decode cX10_toSteal 34 = .ok (.iload 5, 2) := by decide +kernel
theorem dX10_toSteal_36 : decode cX10_toSteal 36 = .ok (.aload_n 0, 1) := by decide +kernel
theorem dX10_toSteal_37 : decode cX10_toSteal 37 = .ok (.getfield 276, 3) := by decide +kernel
theorem dX10_toSteal_40 : decode cX10_toSteal 40 = .ok (.if_icmp .ge 62, 3) := by decide +kernel
theorem dX10_toSteal_43 : decode cX10_toSteal 43 = .ok (.aload_n 0, 1) := by decide +kernel
theorem dX10_toSteal_44 : decode cX10_toSteal 44 = .ok (.iconst 0, 1) := by decide +kernel
theorem dX10_toSteal_45 : decode cX10_toSteal 45 = .ok (.iload_n 1, 1) := by decide +kernel
theorem dX10_toSteal_46 : decode cX10_toSteal 46 = .ok (.iload 5, 2) := by decide +kernel
theorem dX10_toSteal_48 : decode cX10_toSteal 48 = .ok (.invokevirtual 386, 3) := by decide +kernel
theorem dX10_toSteal_51 : decode cX10_toSteal 51 = .ok (.ifCond .ne 6, 3) := by decide +kernel
theorem dX10_toSteal_54 : decode cX10_toSteal 54 = .ok (.goto 42, 3) := by decide +kernel
theorem dX10_toSteal_57 : decode cX10_toSteal 57 = .ok (.aload_n 0, 1) := by decide +kernel
theorem dX10_toSteal_58 : decode cX10_toSteal 58 = .ok (.invokevirtual 393, 3) := by decide +kernel
theorem dX10_toSteal_61 : decode cX10_toSteal 61 = .ok (.aload_n 0, 1) := by decide +kernel
theorem dX10_toSteal_62 : decode cX10_toSteal 62 = .ok (.bipush 105, 2) := by decide +kernel
theorem dX10_toSteal_64 : decode cX10_toSteal 64 = .ok (.iload_n 1, 1) := by decide +kernel
theorem dX10_toSteal_65 : decode cX10_toSteal 65 = .ok (.iload 5, 2) := by decide +kernel
theorem dX10_toSteal_67 : decode cX10_toSteal 67 = .ok (.invokevirtual 389, 3) := by decide +kernel
theorem dX10_toSteal_70 : decode cX10_toSteal 70 = .ok (.aload_n 0, 1) := by decide +kernel
theorem dX10_toSteal_71 : decode cX10_toSteal 71 = .ok (.iload 5, 2) := by decide +kernel
theorem dX10_toSteal_73 : decode cX10_toSteal 73 = .ok (.iconst 1, 1) := by decide +kernel
theorem dX10_toSteal_74 : decode cX10_toSteal 74 = .ok (.invokevirtual 406, 3) := by decide +kernel
theorem dX10_toSteal_77 : decode cX10_toSteal 77 = .ok (.istore 6, 2) := by decide +kernel
theorem dX10_toSteal_79 : decode cX10_toSteal 79 = .ok (.iload 6, 2) := by decide +kernel
theorem dX10_toSteal_81 : decode cX10_toSteal 81 = .ok (.iload 4, 2) := by decide +kernel
theorem dX10_toSteal_83 : decode cX10_toSteal 83 = .ok (.if_icmp .lt 6, 3) := by decide +kernel
theorem dX10_toSteal_86 : decode cX10_toSteal 86 = .ok (.goto 10, 3) := by decide +kernel
theorem dX10_toSteal_89 : decode cX10_toSteal 89 = .ok (.iload 5, 2) := by decide +kernel
theorem dX10_toSteal_91 : decode cX10_toSteal 91 = .ok (.istore_n 3, 1) := by decide +kernel
theorem dX10_toSteal_92 : decode cX10_toSteal 92 = .ok (.iload 6, 2) := by decide +kernel
theorem dX10_toSteal_94 : decode cX10_toSteal 94 = .ok (.istore 4, 2) := by decide +kernel
theorem dX10_toSteal_96 : decode cX10_toSteal 96 = .ok (.iinc 5 1, 3) := by decide +kernel
theorem dX10_toSteal_99 : decode cX10_toSteal 99 = .ok (.goto (-65), 3) := by decide +kernel
theorem dX10_toSteal_102 : decode cX10_toSteal 102 = .ok (.iload_n 2, 1) := by decide +kernel
theorem dX10_toSteal_103 : decode cX10_toSteal 103 = .ok (.ifCond .ne 7, 3) := by decide +kernel
theorem dX10_toSteal_106 : decode cX10_toSteal 106 = .ok (.iload_n 3, 1) := by decide +kernel
theorem dX10_toSteal_107 : decode cX10_toSteal 107 = .ok (.goto 8, 3) := by decide +kernel
theorem dX10_toSteal_110 : decode cX10_toSteal 110 = .ok (.iload 4, 2) := by decide +kernel
theorem dX10_toSteal_112 : decode cX10_toSteal 112 = .ok (.invokestatic 410, 3) := by decide +kernel
theorem dX10_toSteal_115 : decode cX10_toSteal 115 = .ok (.ireturn, 1) := by decide +kernel
theorem dX10_watch_0 : decode cX10_watch 0 = .ok (.aload_n 0, 1) := by decide +kernel
theorem dX10_watch_1 : decode cX10_watch 1 = .ok (.iconst 0, 1) := by decide +kernel
theorem dX10_watch_2 : decode cX10_watch 2 = .ok (.putfield 102, 3) := by decide +kernel
theorem dX10_watch_5 : decode cX10_watch 5 = .ok (.aload_n 0, 1) := by decide +kernel
theorem dX10_watch_6 : decode cX10_watch 6 = .ok (.iload_n 1, 1) := by decide +kernel
theorem dX10_watch_7 : decode cX10_watch 7 = .ok (.iconst 1, 1) := by decide +kernel
theorem dX10_watch_8 : decode cX10_watch 8 = .ok (.iconst 1, 1) := by decide +kernel
theorem dX10_watch_9 : decode cX10_watch 9 = .ok (.invokevirtual 399, 3) := by decide +kernel
theorem dX10_watch_12 : decode cX10_watch 12 = .ok (.ifCond .ne 5, 3) := by decide +kernel
theorem dX10_watch_15 : decode cX10_watch 15 = .ok (.iconst 0, 1) := by decide +kernel
theorem dX10_watch_16 : decode cX10_watch 16 = .ok (.ireturn, 1) := by decide +kernel
theorem dX10_watch_17 : decode cX10_watch 17 = .ok (.iconst (-1), 1) := by decide +kernel
theorem dX10_watch_18 : decode cX10_watch 18 = .ok (.istore_n 2, 1) := by decide +kernel
theorem dX10_watch_19 : decode cX10_watch 19 = .ok (.iconst 0, 1) := by decide +kernel
theorem dX10_watch_20 : decode cX10_watch 20 = .ok (.istore_n 3, 1) := by decide +kernel
theorem dX10_watch_21 : decode cX10_watch 21 = .ok (.iload_n 3, 1) := by decide +kernel
theorem dX10_watch_22 : decode cX10_watch 22 = .ok (.iconst 1, 1) := by decide +kernel
theorem dX10_watch_23 : decode cX10_watch 23 = .ok (.aload_n 0, 1) := by decide +kernel
theorem dX10_watch_24 : decode cX10_watch 24 = .ok (.getfield 7, 3) := by decide +kernel
theorem dX10_watch_27 : decode cX10_watch 27 = .ok (.ishl, 1) := by decide +kernel
theorem dX10_watch_28 : decode cX10_watch 28 = .ok (.if_icmp .ge 86, 3) := by decide +kernel
theorem dX10_watch_31 : decode cX10_watch 31 = .ok (.iconst 1, 1) := by decide +kernel
theorem dX10_watch_32 : decode cX10_watch 32 = .ok (.istore 4, 2) := by decide +kernel
theorem dX10_watch_34 : decode cX10_watch 34 = .ok (.iconst 0, 1) := by decide +kernel
theorem dX10_watch_35 : decode cX10_watch 35 = .ok (.istore 5, 2) := by decide +kernel
theorem dX10_watch_37 : decode cX10_watch 37 = .ok (.iload 5, 2) := by decide +kernel
theorem dX10_watch_39 : decode cX10_watch 39 = .ok (.aload_n 0, 1) := by decide +kernel
theorem dX10_watch_40 : decode cX10_watch 40 = .ok (.getfield 273, 3) := by decide +kernel
theorem dX10_watch_43 : decode cX10_watch 43 = .ok (.if_icmp .ge 42, 3) := by decide +kernel
theorem dX10_watch_46 : decode cX10_watch 46 = .ok (.iload 4, 2) := by decide +kernel
theorem dX10_watch_48 : decode cX10_watch 48 = .ok (.ifCond .eq 37, 3) := by decide +kernel
theorem dX10_watch_51 : decode cX10_watch 51 = .ok (.aload_n 0, 1) := by decide +kernel
theorem dX10_watch_52 : decode cX10_watch 52 = .ok (.iconst 0, 1) := by decide +kernel
theorem dX10_watch_53 : decode cX10_watch 53 = .ok (.iload 5, 2) := by decide +kernel
theorem dX10_watch_55 : decode cX10_watch 55 = .ok (.invokevirtual 300, 3) := by decide +kernel
theorem dX10_watch_58 : decode cX10_watch 58 = .ok (.ifCond .eq 14, 3) := by decide +kernel
theorem dX10_watch_61 : decode cX10_watch 61 = .ok (.aload_n 0, 1) := by decide +kernel
theorem dX10_watch_62 : decode cX10_watch 62 = .ok (.iload 5, 2) := by decide +kernel
theorem dX10_watch_64 : decode cX10_watch 64 = .ok (.iload_n 3, 1) := by decide +kernel
theorem dX10_watch_65 : decode cX10_watch 65 = .ok (.iload_n 1, 1) := by decide +kernel
theorem dX10_watch_66 : decode cX10_watch 66 = .ok (.invokevirtual 413, 3) := by decide +kernel
theorem dX10_watch_69 : decode cX10_watch 69 = .ok (.ifCond .eq 7, 3) := by decide +kernel
theorem dX10_watch_72 : decode cX10_watch 72 = .ok (.iconst 1, 1) := by decide +kernel
theorem dX10_watch_73 : decode cX10_watch 73 = .ok (.goto 4, 3) := by decide +kernel
theorem dX10_watch_76 : decode cX10_watch 76 = .ok (.iconst 0, 1) := by decide +kernel
theorem dX10_watch_77 : decode cX10_watch 77 = .ok (.istore 4, 2) := by decide +kernel
theorem dX10_watch_79 : decode cX10_watch 79 = .ok (.iinc 5 1, 3) := by decide +kernel
theorem dX10_watch_82 : decode cX10_watch 82 = .ok (.goto (-45), 3) := by decide +kernel
theorem dX10_watch_85 : decode cX10_watch 85 = .ok (.iload 4, 2) := by decide +kernel
theorem dX10_watch_87 : decode cX10_watch 87 = .ok (.ifCond .eq 21, 3) := by decide +kernel
theorem dX10_watch_90 : decode cX10_watch 90 = .ok (.iload_n 2, 1) := by decide +kernel
theorem dX10_watch_91 : decode cX10_watch 91 = .ok (.iconst (-1), 1) := by decide +kernel
theorem dX10_watch_92 : decode cX10_watch 92 = .ok (.if_icmp .eq 14, 3) := by decide +kernel
theorem dX10_watch_95 : decode cX10_watch 95 = .ok (.iload_n 3, 1) := by decide +kernel
theorem dX10_watch_96 : decode cX10_watch 96 = .ok (.invokestatic 312, 3) := by decide +kernel
theorem dX10_watch_99 : decode cX10_watch 99 = .ok (.iload_n 2, 1) := by decide +kernel
theorem dX10_watch_100 : decode cX10_watch 100 = .ok (.invokestatic 312, 3) := by decide +kernel
theorem dX10_watch_103 : decode cX10_watch 103 = .ok (.if_icmp .ge 5, 3) := by decide +kernel
theorem dX10_watch_106 : decode cX10_watch 106 = .ok (.iload_n 3, 1) := by decide +kernel
theorem dX10_watch_107 : decode cX10_watch 107 = .ok (.istore_n 2, 1) := by decide +kernel
theorem dX10_watch_108 : decode cX10_watch 108 = .ok (.iinc 3 1, 3) := by decide +kernel
theorem dX10_watch_111 : decode cX10_watch 111 = .ok (.goto (-90), 3) := by decide +kernel
theorem dX10_watch_114 : decode cX10_watch 114 = .ok (.iload_n 2, 1) := by decide +kernel
theorem dX10_watch_115 : decode cX10_watch 115 = .ok (.ireturn, 1) := by decide +kernel
theorem dX10_isSeenAt_0 : decode cX10_isSeenAt 0 = .ok (.iconst 0, 1) := by decide +kernel
theorem dX10_isSeenAt_1 : decode cX10_isSeenAt 1 = .ok (.istore 4, 2) := by decide +kernel
theorem dX10_isSeenAt_3 : decode cX10_isSeenAt 3 = .ok (.iload 4, 2) := by decide +kernel
theorem dX10_isSeenAt_5 : decode cX10_isSeenAt 5 = .ok (.iload_n 3, 1) := by decide +kernel
theorem dX10_isSeenAt_6 : decode cX10_isSeenAt 6 = .ok (.if_icmp .ge 34, 3) := by decide +kernel
theorem dX10_isSeenAt_9 : decode cX10_isSeenAt 9 = .ok (.iload_n 2, 1) := by decide +kernel
theorem dX10_isSeenAt_10 : decode cX10_isSeenAt 10 = .ok (.aload_n 0, 1) := by decide +kernel
theorem dX10_isSeenAt_11 : decode cX10_isSeenAt 11 = .ok (.iconst 0, 1) := by decide +kernel
theorem dX10_isSeenAt_12 : decode cX10_isSeenAt 12 = .ok (.iload_n 1, 1) := by decide +kernel
theorem dX10_isSeenAt_13 : decode cX10_isSeenAt 13 = .ok (.aload_n 0, 1) := by decide +kernel
theorem dX10_isSeenAt_14 : decode cX10_isSeenAt 14 = .ok (.getfield 66, 3) := by decide +kernel
theorem dX10_isSeenAt_17 : decode cX10_isSeenAt 17 = .ok (.iconst 0, 1) := by decide +kernel
theorem dX10_isSeenAt_18 : decode cX10_isSeenAt 18 = .ok (.iaload, 1) := by decide +kernel
theorem dX10_isSeenAt_19 : decode cX10_isSeenAt 19 = .ok (.iload 4, 2) := by decide +kernel
theorem dX10_isSeenAt_21 : decode cX10_isSeenAt 21 = .ok (.iadd, 1) := by decide +kernel
theorem dX10_isSeenAt_22 : decode cX10_isSeenAt 22 = .ok (.invokevirtual 297, 3) := by decide +kernel
theorem dX10_isSeenAt_25 : decode cX10_isSeenAt 25 = .ok (.ishr, 1) := by decide +kernel
theorem dX10_isSeenAt_26 : decode cX10_isSeenAt 26 = .ok (.iconst 1, 1) := by decide +kernel
theorem dX10_isSeenAt_27 : decode cX10_isSeenAt 27 = .ok (.iand, 1) := by decide +kernel
theorem dX10_isSeenAt_28 : decode cX10_isSeenAt 28 = .ok (.iconst 1, 1) := by decide +kernel
theorem dX10_isSeenAt_29 : decode cX10_isSeenAt 29 = .ok (.if_icmp .ne 5, 3) := by decide +kernel
theorem dX10_isSeenAt_32 : decode cX10_isSeenAt 32 = .ok (.iconst 1, 1) := by decide +kernel
theorem dX10_isSeenAt_33 : decode cX10_isSeenAt 33 = .ok (.ireturn, 1) := by decide +kernel
theorem dX10_isSeenAt_34 : decode cX10_isSeenAt 34 = .ok (.iinc 4 1, 3) := by decide +kernel
theorem dX10_isSeenAt_37 : decode cX10_isSeenAt 37 = .ok (.goto (-34), 3) := by decide +kernel
theorem dX10_isSeenAt_40 : decode cX10_isSeenAt 40 = .ok (.iconst 0, 1) := by decide +kernel
theorem dX10_isSeenAt_41 : decode cX10_isSeenAt 41 = .ok (.ireturn, 1) := by decide +kernel
theorem dX10_goesAt_0 : decode cX10_goesAt 0 = .ok (.aload_n 0, 1) := by decide +kernel
theorem dX10_goesAt_1 : decode cX10_goesAt 1 = .ok (.getfield 66, 3) := by decide +kernel
theorem dX10_goesAt_4 : decode cX10_goesAt 4 = .ok (.bipush 31, 2) := by decide +kernel
theorem dX10_goesAt_6 : decode cX10_goesAt 6 = .ok (.iload_n 1, 1) := by decide +kernel
theorem dX10_goesAt_7 : decode cX10_goesAt 7 = .ok (.iadd, 1) := by decide +kernel
theorem dX10_goesAt_8 : decode cX10_goesAt 8 = .ok (.iaload, 1) := by decide +kernel
theorem dX10_goesAt_9 : decode cX10_goesAt 9 = .ok (.aload_n 0, 1) := by decide +kernel
theorem dX10_goesAt_10 : decode cX10_goesAt 10 = .ok (.getfield 66, 3) := by decide +kernel
theorem dX10_goesAt_13 : decode cX10_goesAt 13 = .ok (.bipush 49, 2) := by decide +kernel
theorem dX10_goesAt_15 : decode cX10_goesAt 15 = .ok (.iload_n 2, 1) := by decide +kernel
theorem dX10_goesAt_16 : decode cX10_goesAt 16 = .ok (.iadd, 1) := by decide +kernel
theorem dX10_goesAt_17 : decode cX10_goesAt 17 = .ok (.iaload, 1) := by decide +kernel
theorem dX10_goesAt_18 : decode cX10_goesAt 18 = .ok (.isub, 1) := by decide +kernel
theorem dX10_goesAt_19 : decode cX10_goesAt 19 = .ok (.istore 4, 2) := by decide +kernel
theorem dX10_goesAt_21 : decode cX10_goesAt 21 = .ok (.iload 4, 2) := by decide +kernel
theorem dX10_goesAt_23 : decode cX10_goesAt 23 = .ok (.iconst 0, 1) := by decide +kernel
theorem dX10_goesAt_24 : decode cX10_goesAt 24 = .ok (.bipush 9, 2) := by decide +kernel
theorem dX10_goesAt_26 : decode cX10_goesAt 26 = .ok (.invokestatic 315, 3) := by decide +kernel
theorem dX10_goesAt_29 : decode cX10_goesAt 29 = .ok (.aload_n 0, 1) := by decide +kernel
theorem dX10_goesAt_30 : decode cX10_goesAt 30 = .ok (.getfield 78, 3) := by decide +kernel
theorem dX10_goesAt_33 : decode cX10_goesAt 33 = .ok (.sipush 256, 3) := by decide +kernel
theorem dX10_goesAt_36 : decode cX10_goesAt 36 = .ok (.iload_n 1, 1) := by decide +kernel
theorem dX10_goesAt_37 : decode cX10_goesAt 37 = .ok (.iconst 1, 1) := by decide +kernel
theorem dX10_goesAt_38 : decode cX10_goesAt 38 = .ok (.iadd, 1) := by decide +kernel
theorem dX10_goesAt_39 : decode cX10_goesAt 39 = .ok (.imul, 1) := by decide +kernel
theorem dX10_goesAt_40 : decode cX10_goesAt 40 = .ok (.iload_n 3, 1) := by decide +kernel
theorem dX10_goesAt_41 : decode cX10_goesAt 41 = .ok (.iconst 1, 1) := by decide +kernel
theorem dX10_goesAt_42 : decode cX10_goesAt 42 = .ok (.iload_n 2, 1) := by decide +kernel
theorem dX10_goesAt_43 : decode cX10_goesAt 43 = .ok (.ishl, 1) := by decide +kernel
theorem dX10_goesAt_44 : decode cX10_goesAt 44 = .ok (.ior, 1) := by decide +kernel
theorem dX10_goesAt_45 : decode cX10_goesAt 45 = .ok (.iadd, 1) := by decide +kernel
theorem dX10_goesAt_46 : decode cX10_goesAt 46 = .ok (.iaload, 1) := by decide +kernel
theorem dX10_goesAt_47 : decode cX10_goesAt 47 = .ok (.iadd, 1) := by decide +kernel
theorem dX10_goesAt_48 : decode cX10_goesAt 48 = .ok (.ireturn, 1) := by decide +kernel
theorem dX10_canGo_0 : decode cX10_canGo 0 = .ok (.iload_n 3, 1) := by decide +kernel
theorem dX10_canGo_1 : decode cX10_canGo 1 = .ok (.iload_n 2, 1) := by decide +kernel
theorem dX10_canGo_2 : decode cX10_canGo 2 = .ok (.ishr, 1) := by decide +kernel
theorem dX10_canGo_3 : decode cX10_canGo 3 = .ok (.iconst 1, 1) := by decide +kernel
theorem dX10_canGo_4 : decode cX10_canGo 4 = .ok (.iand, 1) := by decide +kernel
theorem dX10_canGo_5 : decode cX10_canGo 5 = .ok (.ifCond .ne 19, 3) := by decide +kernel
theorem dX10_canGo_8 : decode cX10_canGo 8 = .ok (.aload_n 0, 1) := by decide +kernel
theorem dX10_canGo_9 : decode cX10_canGo 9 = .ok (.getfield 66, 3) := by decide +kernel
theorem dX10_canGo_12 : decode cX10_canGo 12 = .ok (.iconst 1, 1) := by decide +kernel
theorem dX10_canGo_13 : decode cX10_canGo 13 = .ok (.iload_n 1, 1) := by decide +kernel
theorem dX10_canGo_14 : decode cX10_canGo 14 = .ok (.iadd, 1) := by decide +kernel
theorem dX10_canGo_15 : decode cX10_canGo 15 = .ok (.iaload, 1) := by decide +kernel
theorem dX10_canGo_16 : decode cX10_canGo 16 = .ok (.iload_n 2, 1) := by decide +kernel
theorem dX10_canGo_17 : decode cX10_canGo 17 = .ok (.if_icmp .eq 7, 3) := by decide +kernel
theorem dX10_canGo_20 : decode cX10_canGo 20 = .ok (.iconst 1, 1) := by decide +kernel
theorem dX10_canGo_21 : decode cX10_canGo 21 = .ok (.goto 4, 3) := by decide +kernel
theorem dX10_canGo_24 : decode cX10_canGo 24 = .ok (.iconst 0, 1) := by decide +kernel
theorem dX10_canGo_25 : decode cX10_canGo 25 = .ok (.ireturn, 1) := by decide +kernel
theorem dX10_least_0 : decode cX10_least 0 = .ok (.aload_n 0, 1) := by decide +kernel
theorem dX10_least_1 : decode cX10_least 1 = .ok (.iconst 0, 1) := by decide +kernel
theorem dX10_least_2 : decode cX10_least 2 = .ok (.putfield 102, 3) := by decide +kernel
theorem dX10_least_5 : decode cX10_least 5 = .ok (.aload_n 0, 1) := by decide +kernel
theorem dX10_least_6 : decode cX10_least 6 = .ok (.iload_n 1, 1) := by decide +kernel
theorem dX10_least_7 : decode cX10_least 7 = .ok (.iconst (-1), 1) := by decide +kernel
theorem dX10_least_8 : decode cX10_least 8 = .ok (.if_icmp .lt 15, 3) := by decide +kernel
theorem dX10_least_11 : decode cX10_least 11 = .ok (.iload_n 1, 1) := by decide +kernel
theorem dX10_least_12 : decode cX10_least 12 = .ok (.aload_n 0, 1) := by decide +kernel
theorem dX10_least_13 : decode cX10_least 13 = .ok (.getfield 276, 3) := by decide +kernel
theorem dX10_least_16 : decode cX10_least 16 = .ok (.if_icmp .ge 7, 3) := by decide +kernel
theorem dX10_least_19 : decode cX10_least 19 = .ok (.iconst 1, 1) := by decide +kernel
theorem dX10_least_20 : decode cX10_least 20 = .ok (.goto 4, 3) := by decide +kernel
theorem dX10_least_23 : decode cX10_least 23 = .ok (.iconst 0, 1) := by decide +kernel
theorem dX10_least_24 : decode cX10_least 24 = .ok (.iconst 1, 1) := by decide +kernel
theorem dX10_least_25 : decode cX10_least 25 = .ok (.invokevirtual 266, 3) := by decide +kernel
theorem dX10_least_28 : decode cX10_least 28 = .ok (.ifCond .ne 5, 3) := by decide +kernel
theorem dX10_least_31 : decode cX10_least 31 = .ok (.iconst 0, 1) := by decide +kernel
theorem dX10_least_32 : decode cX10_least 32 = .ok (.ireturn, 1) := by decide +kernel
theorem dX10_least_33 : decode cX10_least 33 = .ok (.iconst 0, 1) := by decide +kernel
theorem dX10_least_34 : decode cX10_least 34 = .ok (.istore_n 2, 1) := by decide +kernel
theorem dX10_least_35 : decode cX10_least 35 = .ok (.iload_n 2, 1) := by decide +kernel
theorem dX10_least_36 : decode cX10_least 36 = .ok (.sipush 256, 3) := by decide +kernel
theorem dX10_least_39 : decode cX10_least 39 = .ok (.if_icmp .ge 25, 3) := by decide +kernel
theorem dX10_least_42 : decode cX10_least 42 = .ok (.aload_n 0, 1) := by decide +kernel
theorem dX10_least_43 : decode cX10_least 43 = .ok (.getfield 78, 3) := by decide +kernel
theorem dX10_least_46 : decode cX10_least 46 = .ok (.sipush 256, 3) := by decide +kernel
theorem dX10_least_49 : decode cX10_least 49 = .ok (.aload_n 0, 1) := by decide +kernel
theorem dX10_least_50 : decode cX10_least 50 = .ok (.getfield 276, 3) := by decide +kernel
theorem dX10_least_53 : decode cX10_least 53 = .ok (.imul, 1) := by decide +kernel
theorem dX10_least_54 : decode cX10_least 54 = .ok (.iload_n 2, 1) := by decide +kernel
theorem dX10_least_55 : decode cX10_least 55 = .ok (.iadd, 1) := by decide +kernel
theorem dX10_least_56 : decode cX10_least 56 = .ok (.iconst 0, 1) := by decide +kernel
theorem dX10_least_57 : decode cX10_least 57 = .ok (.iastore, 1) := by decide +kernel
theorem dX10_least_58 : decode cX10_least 58 = .ok (.iinc 2 1, 3) := by decide +kernel
theorem dX10_least_61 : decode cX10_least 61 = .ok (.goto (-26), 3) := by decide +kernel
theorem dX10_least_64 : decode cX10_least 64 = .ok (.aload_n 0, 1) := by decide +kernel
theorem dX10_least_65 : decode cX10_least 65 = .ok (.getfield 276, 3) := by decide +kernel
theorem dX10_least_68 : decode cX10_least 68 = .ok (.iconst 1, 1) := by decide +kernel
theorem dX10_least_69 : decode cX10_least 69 = .ok (.isub, 1) := by decide +kernel
theorem dX10_least_70 : decode cX10_least 70 = .ok (.istore_n 2, 1) := by decide +kernel
theorem dX10_least_71 : decode cX10_least 71 = .ok (.iload_n 2, 1) := by decide +kernel
theorem dX10_least_72 : decode cX10_least 72 = .ok (.ifCond .lt 133, 3) := by decide +kernel
theorem dX10_least_75 : decode cX10_least 75 = .ok (.iconst 0, 1) := by decide +kernel
theorem dX10_least_76 : decode cX10_least 76 = .ok (.istore_n 3, 1) := by decide +kernel
theorem dX10_least_77 : decode cX10_least 77 = .ok (.iload_n 3, 1) := by decide +kernel
theorem dX10_least_78 : decode cX10_least 78 = .ok (.iconst 1, 1) := by decide +kernel
theorem dX10_least_79 : decode cX10_least 79 = .ok (.aload_n 0, 1) := by decide +kernel
theorem dX10_least_80 : decode cX10_least 80 = .ok (.getfield 273, 3) := by decide +kernel
theorem dX10_least_83 : decode cX10_least 83 = .ok (.ishl, 1) := by decide +kernel
theorem dX10_least_84 : decode cX10_least 84 = .ok (.if_icmp .ge 115, 3) := by decide +kernel
theorem dX10_least_87 : decode cX10_least 87 = .ok (.aload_n 0, 1) := by decide +kernel
theorem dX10_least_88 : decode cX10_least 88 = .ok (.getfield 66, 3) := by decide +kernel
theorem dX10_least_91 : decode cX10_least 91 = .ok (.bipush 11, 2) := by decide +kernel
theorem dX10_least_93 : decode cX10_least 93 = .ok (.iload_n 2, 1) := by decide +kernel
theorem dX10_least_94 : decode cX10_least 94 = .ok (.iadd, 1) := by decide +kernel
theorem dX10_least_95 : decode cX10_least 95 = .ok (.iaload, 1) := by decide +kernel
theorem dX10_least_96 : decode cX10_least 96 = .ok (.iconst (-1), 1) := by decide +kernel
theorem dX10_least_97 : decode cX10_least 97 = .ok (.if_icmp .ne 20, 3) := by decide +kernel
theorem dX10_least_100 : decode cX10_least 100 = .ok (.aload_n 0, 1) := by decide +kernel
theorem dX10_least_101 : decode cX10_least 101 = .ok (.getfield 78, 3) := by decide +kernel
theorem dX10_least_104 : decode cX10_least 104 = .ok (.sipush 256, 3) := by decide +kernel
theorem dX10_least_107 : decode cX10_least 107 = .ok (.iload_n 2, 1) := by decide +kernel
theorem dX10_least_108 : decode cX10_least 108 = .ok (.iconst 1, 1) := by decide +kernel
theorem dX10_least_109 : decode cX10_least 109 = .ok (.iadd, 1) := by decide +kernel
theorem dX10_least_110 : decode cX10_least 110 = .ok (.imul, 1) := by decide +kernel
theorem dX10_least_111 : decode cX10_least 111 = .ok (.iload_n 3, 1) := by decide +kernel
theorem dX10_least_112 : decode cX10_least 112 = .ok (.iadd, 1) := by decide +kernel
theorem dX10_least_113 : decode cX10_least 113 = .ok (.iaload, 1) := by decide +kernel
theorem dX10_least_114 : decode cX10_least 114 = .ok (.goto 6, 3) := by decide +kernel
theorem dX10_least_117 : decode cX10_least 117 = .ok (.ldc_w 405, 3) := by decide +kernel
theorem dX10_least_120 : decode cX10_least 120 = .ok (.istore 4, 2) := by decide +kernel
theorem dX10_least_122 : decode cX10_least 122 = .ok (.iconst 0, 1) := by decide +kernel
theorem dX10_least_123 : decode cX10_least 123 = .ok (.istore 5, 2) := by decide +kernel
theorem dX10_least_125 : decode cX10_least 125 = .ok (.iload 5, 2) := by decide +kernel
theorem dX10_least_127 : decode cX10_least 127 = .ok (.aload_n 0, 1) := by decide +kernel
theorem dX10_least_128 : decode cX10_least 128 = .ok (.getfield 273, 3) := by decide +kernel
theorem dX10_least_131 : decode cX10_least 131 = .ok (.if_icmp .ge 48, 3) := by decide +kernel
theorem dX10_least_134 : decode cX10_least 134 = .ok (.aload_n 0, 1) := by decide +kernel
theorem dX10_least_135 : decode cX10_least 135 = .ok (.getfield 66, 3) := by decide +kernel
theorem dX10_least_138 : decode cX10_least 138 = .ok (.bipush 11, 2) := by decide +kernel
theorem dX10_least_140 : decode cX10_least 140 = .ok (.iload_n 2, 1) := by decide +kernel
theorem dX10_least_141 : decode cX10_least 141 = .ok (.iadd, 1) := by decide +kernel
theorem dX10_least_142 : decode cX10_least 142 = .ok (.iaload, 1) := by decide +kernel
theorem dX10_least_143 : decode cX10_least 143 = .ok (.iconst (-1), 1) := by decide +kernel
theorem dX10_least_144 : decode cX10_least 144 = .ok (.if_icmp .eq 35, 3) := by decide +kernel
theorem dX10_least_147 : decode cX10_least 147 = .ok (.aload_n 0, 1) := by decide +kernel
theorem dX10_least_148 : decode cX10_least 148 = .ok (.iload_n 2, 1) := by decide +kernel
theorem dX10_least_149 : decode cX10_least 149 = .ok (.iload 5, 2) := by decide +kernel
theorem dX10_least_151 : decode cX10_least 151 = .ok (.iload_n 3, 1) := by decide +kernel
theorem dX10_least_152 : decode cX10_least 152 = .ok (.invokevirtual 416, 3) := by decide +kernel
theorem dX10_least_155 : decode cX10_least 155 = .ok (.ifCond .eq 18, 3) := by decide +kernel
theorem dX10_least_158 : decode cX10_least 158 = .ok (.iload 4, 2) := by decide +kernel
theorem dX10_least_160 : decode cX10_least 160 = .ok (.aload_n 0, 1) := by decide +kernel
theorem dX10_least_161 : decode cX10_least 161 = .ok (.iload_n 2, 1) := by decide +kernel
theorem dX10_least_162 : decode cX10_least 162 = .ok (.iload 5, 2) := by decide +kernel
theorem dX10_least_164 : decode cX10_least 164 = .ok (.iload_n 3, 1) := by decide +kernel
theorem dX10_least_165 : decode cX10_least 165 = .ok (.invokevirtual 419, 3) := by decide +kernel
theorem dX10_least_168 : decode cX10_least 168 = .ok (.invokestatic 324, 3) := by decide +kernel
theorem dX10_least_171 : decode cX10_least 171 = .ok (.istore 4, 2) := by decide +kernel
theorem dX10_least_173 : decode cX10_least 173 = .ok (.iinc 5 1, 3) := by decide +kernel
theorem dX10_least_176 : decode cX10_least 176 = .ok (.goto (-51), 3) := by decide +kernel
theorem dX10_least_179 : decode cX10_least 179 = .ok (.aload_n 0, 1) := by decide +kernel
theorem dX10_least_180 : decode cX10_least 180 = .ok (.getfield 78, 3) := by decide +kernel
theorem dX10_least_183 : decode cX10_least 183 = .ok (.sipush 256, 3) := by decide +kernel
theorem dX10_least_186 : decode cX10_least 186 = .ok (.iload_n 2, 1) := by decide +kernel
theorem dX10_least_187 : decode cX10_least 187 = .ok (.imul, 1) := by decide +kernel
theorem dX10_least_188 : decode cX10_least 188 = .ok (.iload_n 3, 1) := by decide +kernel
theorem dX10_least_189 : decode cX10_least 189 = .ok (.iadd, 1) := by decide +kernel
theorem dX10_least_190 : decode cX10_least 190 = .ok (.iload 4, 2) := by decide +kernel
theorem dX10_least_192 : decode cX10_least 192 = .ok (.iastore, 1) := by decide +kernel
theorem dX10_least_193 : decode cX10_least 193 = .ok (.iinc 3 1, 3) := by decide +kernel
theorem dX10_least_196 : decode cX10_least 196 = .ok (.goto (-119), 3) := by decide +kernel
theorem dX10_least_199 : decode cX10_least 199 = .ok (.iinc 2 (-1), 3) := by decide +kernel
theorem dX10_least_202 : decode cX10_least 202 = .ok (.goto (-131), 3) := by decide +kernel
theorem dX10_least_205 : decode cX10_least 205 = .ok (.aload_n 0, 1) := by decide +kernel
theorem dX10_least_206 : decode cX10_least 206 = .ok (.getfield 78, 3) := by decide +kernel
theorem dX10_least_209 : decode cX10_least 209 = .ok (.iconst 0, 1) := by decide +kernel
theorem dX10_least_210 : decode cX10_least 210 = .ok (.iaload, 1) := by decide +kernel
theorem dX10_least_211 : decode cX10_least 211 = .ok (.ldc_w 405, 3) := by decide +kernel
theorem dX10_least_214 : decode cX10_least 214 = .ok (.if_icmp .lt 6, 3) := by decide +kernel
theorem dX10_least_217 : decode cX10_least 217 = .ok (.bipush (-2), 2) := by decide +kernel
theorem dX10_least_219 : decode cX10_least 219 = .ok (.ireturn, 1) := by decide +kernel
theorem dX10_least_220 : decode cX10_least 220 = .ok (.iload_n 1, 1) := by decide +kernel
theorem dX10_least_221 : decode cX10_least 221 = .ok (.iconst (-1), 1) := by decide +kernel
theorem dX10_least_222 : decode cX10_least 222 = .ok (.if_icmp .ne 10, 3) := by decide +kernel
theorem dX10_least_225 : decode cX10_least 225 = .ok (.aload_n 0, 1) := by decide +kernel
theorem dX10_least_226 : decode cX10_least 226 = .ok (.getfield 78, 3) := by decide +kernel
theorem dX10_least_229 : decode cX10_least 229 = .ok (.iconst 0, 1) := by decide +kernel
theorem dX10_least_230 : decode cX10_least 230 = .ok (.iaload, 1) := by decide +kernel
theorem dX10_least_231 : decode cX10_least 231 = .ok (.ireturn, 1) := by decide +kernel
theorem dX10_least_232 : decode cX10_least 232 = .ok (.iconst 0, 1) := by decide +kernel
theorem dX10_least_233 : decode cX10_least 233 = .ok (.istore_n 2, 1) := by decide +kernel
theorem dX10_least_234 : decode cX10_least 234 = .ok (.iconst (-1), 1) := by decide +kernel
theorem dX10_least_235 : decode cX10_least 235 = .ok (.istore_n 3, 1) := by decide +kernel
theorem dX10_least_236 : decode cX10_least 236 = .ok (.iconst 0, 1) := by decide +kernel
theorem dX10_least_237 : decode cX10_least 237 = .ok (.istore 4, 2) := by decide +kernel
theorem dX10_least_239 : decode cX10_least 239 = .ok (.iload 4, 2) := by decide +kernel
theorem dX10_least_241 : decode cX10_least 241 = .ok (.iload_n 1, 1) := by decide +kernel
theorem dX10_least_242 : decode cX10_least 242 = .ok (.if_icmp .gt 95, 3) := by decide +kernel
theorem dX10_least_245 : decode cX10_least 245 = .ok (.iconst (-1), 1) := by decide +kernel
theorem dX10_least_246 : decode cX10_least 246 = .ok (.istore_n 3, 1) := by decide +kernel
theorem dX10_least_247 : decode cX10_least 247 = .ok (.aload_n 0, 1) := by decide +kernel
theorem dX10_least_248 : decode cX10_least 248 = .ok (.getfield 273, 3) := by decide +kernel
theorem dX10_least_251 : decode cX10_least 251 = .ok (.iconst 1, 1) := by decide +kernel
theorem dX10_least_252 : decode cX10_least 252 = .ok (.isub, 1) := by decide +kernel
theorem dX10_least_253 : decode cX10_least 253 = .ok (.istore 5, 2) := by decide +kernel
theorem dX10_least_255 : decode cX10_least 255 = .ok (.iload 5, 2) := by decide +kernel
theorem dX10_least_257 : decode cX10_least 257 = .ok (.ifCond .lt 63, 3) := by decide +kernel
theorem dX10_least_260 : decode cX10_least 260 = .ok (.aload_n 0, 1) := by decide +kernel
theorem dX10_least_261 : decode cX10_least 261 = .ok (.getfield 66, 3) := by decide +kernel
theorem dX10_least_264 : decode cX10_least 264 = .ok (.bipush 11, 2) := by decide +kernel
theorem dX10_least_266 : decode cX10_least 266 = .ok (.iload 4, 2) := by decide +kernel
theorem dX10_least_268 : decode cX10_least 268 = .ok (.iadd, 1) := by decide +kernel
theorem dX10_least_269 : decode cX10_least 269 = .ok (.iaload, 1) := by decide +kernel
theorem dX10_least_270 : decode cX10_least 270 = .ok (.iconst (-1), 1) := by decide +kernel
theorem dX10_least_271 : decode cX10_least 271 = .ok (.if_icmp .eq 49, 3) := by decide +kernel
theorem dX10_least_274 : decode cX10_least 274 = .ok (.aload_n 0, 1) := by decide +kernel
theorem dX10_least_275 : decode cX10_least 275 = .ok (.iload 4, 2) := by decide +kernel
theorem dX10_least_277 : decode cX10_least 277 = .ok (.iload 5, 2) := by decide +kernel
theorem dX10_least_279 : decode cX10_least 279 = .ok (.iload_n 2, 1) := by decide +kernel
theorem dX10_least_280 : decode cX10_least 280 = .ok (.invokevirtual 416, 3) := by decide +kernel
theorem dX10_least_283 : decode cX10_least 283 = .ok (.ifCond .eq 31, 3) := by decide +kernel
theorem dX10_least_286 : decode cX10_least 286 = .ok (.aload_n 0, 1) := by decide +kernel
theorem dX10_least_287 : decode cX10_least 287 = .ok (.iload 4, 2) := by decide +kernel
theorem dX10_least_289 : decode cX10_least 289 = .ok (.iload 5, 2) := by decide +kernel
theorem dX10_least_291 : decode cX10_least 291 = .ok (.iload_n 2, 1) := by decide +kernel
theorem dX10_least_292 : decode cX10_least 292 = .ok (.invokevirtual 419, 3) := by decide +kernel
theorem dX10_least_295 : decode cX10_least 295 = .ok (.aload_n 0, 1) := by decide +kernel
theorem dX10_least_296 : decode cX10_least 296 = .ok (.getfield 78, 3) := by decide +kernel
theorem dX10_least_299 : decode cX10_least 299 = .ok (.sipush 256, 3) := by decide +kernel
theorem dX10_least_302 : decode cX10_least 302 = .ok (.iload 4, 2) := by decide +kernel
theorem dX10_least_304 : decode cX10_least 304 = .ok (.imul, 1) := by decide +kernel
theorem dX10_least_305 : decode cX10_least 305 = .ok (.iload_n 2, 1) := by decide +kernel
theorem dX10_least_306 : decode cX10_least 306 = .ok (.iadd, 1) := by decide +kernel
theorem dX10_least_307 : decode cX10_least 307 = .ok (.iaload, 1) := by decide +kernel
theorem dX10_least_308 : decode cX10_least 308 = .ok (.if_icmp .ne 6, 3) := by decide +kernel
theorem dX10_least_311 : decode cX10_least 311 = .ok (.iload 5, 2) := by decide +kernel
theorem dX10_least_313 : decode cX10_least 313 = .ok (.istore_n 3, 1) := by decide +kernel
theorem dX10_least_314 : decode cX10_least 314 = .ok (.iinc 5 (-1), 3) := by decide +kernel
theorem dX10_least_317 : decode cX10_least 317 = .ok (.goto (-62), 3) := by decide +kernel
theorem dX10_least_320 : decode cX10_least 320 = .ok (.iload_n 3, 1) := by decide +kernel
theorem dX10_least_321 : decode cX10_least 321 = .ok (.iconst (-1), 1) := by decide +kernel
theorem dX10_least_322 : decode cX10_least 322 = .ok (.if_icmp .eq 9, 3) := by decide +kernel
theorem dX10_least_325 : decode cX10_least 325 = .ok (.iload_n 2, 1) := by decide +kernel
theorem dX10_least_326 : decode cX10_least 326 = .ok (.iconst 1, 1) := by decide +kernel
theorem dX10_least_327 : decode cX10_least 327 = .ok (.iload_n 3, 1) := by decide +kernel
theorem dX10_least_328 : decode cX10_least 328 = .ok (.ishl, 1) := by decide +kernel
theorem dX10_least_329 : decode cX10_least 329 = .ok (.ior, 1) := by decide +kernel
theorem dX10_least_330 : decode cX10_least 330 = .ok (.istore_n 2, 1) := by decide +kernel
theorem dX10_least_331 : decode cX10_least 331 = .ok (.iinc 4 1, 3) := by decide +kernel
theorem dX10_least_334 : decode cX10_least 334 = .ok (.goto (-95), 3) := by decide +kernel
theorem dX10_least_337 : decode cX10_least 337 = .ok (.iload_n 3, 1) := by decide +kernel
theorem dX10_least_338 : decode cX10_least 338 = .ok (.ireturn, 1) := by decide +kernel
theorem dX10_whose_0 : decode cX10_whose 0 = .ok (.aload_n 0, 1) := by decide +kernel
theorem dX10_whose_1 : decode cX10_whose 1 = .ok (.iconst 0, 1) := by decide +kernel
theorem dX10_whose_2 : decode cX10_whose 2 = .ok (.putfield 102, 3) := by decide +kernel
theorem dX10_whose_5 : decode cX10_whose 5 = .ok (.aload_n 0, 1) := by decide +kernel
theorem dX10_whose_6 : decode cX10_whose 6 = .ok (.iload_n 1, 1) := by decide +kernel
theorem dX10_whose_7 : decode cX10_whose 7 = .ok (.invokevirtual 362, 3) := by decide +kernel
theorem dX10_whose_10 : decode cX10_whose 10 = .ok (.ifCond .eq 11, 3) := by decide +kernel
theorem dX10_whose_13 : decode cX10_whose 13 = .ok (.aload_n 0, 1) := by decide +kernel
theorem dX10_whose_14 : decode cX10_whose 14 = .ok (.iload_n 1, 1) := by decide +kernel
theorem dX10_whose_15 : decode cX10_whose 15 = .ok (.invokevirtual 346, 3) := by decide +kernel
theorem dX10_whose_18 : decode cX10_whose 18 = .ok (.goto 4, 3) := by decide +kernel
theorem dX10_whose_21 : decode cX10_whose 21 = .ok (.iconst 0, 1) := by decide +kernel
theorem dX10_whose_22 : decode cX10_whose 22 = .ok (.ireturn, 1) := by decide +kernel
theorem dX10_meet_0 : decode cX10_meet 0 = .ok (.aload_n 0, 1) := by decide +kernel
theorem dX10_meet_1 : decode cX10_meet 1 = .ok (.iconst 0, 1) := by decide +kernel
theorem dX10_meet_2 : decode cX10_meet 2 = .ok (.putfield 102, 3) := by decide +kernel
theorem dX10_meet_5 : decode cX10_meet 5 = .ok (.aload_n 0, 1) := by decide +kernel
theorem dX10_meet_6 : decode cX10_meet 6 = .ok (.iload_n 1, 1) := by decide +kernel
theorem dX10_meet_7 : decode cX10_meet 7 = .ok (.invokevirtual 362, 3) := by decide +kernel
theorem dX10_meet_10 : decode cX10_meet 10 = .ok (.ifCond .eq 11, 3) := by decide +kernel
theorem dX10_meet_13 : decode cX10_meet 13 = .ok (.aload_n 0, 1) := by decide +kernel
theorem dX10_meet_14 : decode cX10_meet 14 = .ok (.iload_n 2, 1) := by decide +kernel
theorem dX10_meet_15 : decode cX10_meet 15 = .ok (.invokevirtual 362, 3) := by decide +kernel
theorem dX10_meet_18 : decode cX10_meet 18 = .ok (.ifCond .ne 5, 3) := by decide +kernel
theorem dX10_meet_21 : decode cX10_meet 21 = .ok (.iconst 0, 1) := by decide +kernel
theorem dX10_meet_22 : decode cX10_meet 22 = .ok (.ireturn, 1) := by decide +kernel
theorem dX10_meet_23 : decode cX10_meet 23 = .ok (.iconst 0, 1) := by decide +kernel
theorem dX10_meet_24 : decode cX10_meet 24 = .ok (.istore_n 3, 1) := by decide +kernel
theorem dX10_meet_25 : decode cX10_meet 25 = .ok (.iload_n 3, 1) := by decide +kernel
theorem dX10_meet_26 : decode cX10_meet 26 = .ok (.bipush 100, 2) := by decide +kernel
theorem dX10_meet_28 : decode cX10_meet 28 = .ok (.if_icmp .ge 49, 3) := by decide +kernel
theorem dX10_meet_31 : decode cX10_meet 31 = .ok (.iload_n 1, 1) := by decide +kernel
theorem dX10_meet_32 : decode cX10_meet 32 = .ok (.iload_n 2, 1) := by decide +kernel
theorem dX10_meet_33 : decode cX10_meet 33 = .ok (.if_icmp .eq 44, 3) := by decide +kernel
theorem dX10_meet_36 : decode cX10_meet 36 = .ok (.aload_n 0, 1) := by decide +kernel
theorem dX10_meet_37 : decode cX10_meet 37 = .ok (.iconst 0, 1) := by decide +kernel
theorem dX10_meet_38 : decode cX10_meet 38 = .ok (.iload_n 1, 1) := by decide +kernel
theorem dX10_meet_39 : decode cX10_meet 39 = .ok (.aload_n 0, 1) := by decide +kernel
theorem dX10_meet_40 : decode cX10_meet 40 = .ok (.getfield 66, 3) := by decide +kernel
theorem dX10_meet_43 : decode cX10_meet 43 = .ok (.iconst 0, 1) := by decide +kernel
theorem dX10_meet_44 : decode cX10_meet 44 = .ok (.iaload, 1) := by decide +kernel
theorem dX10_meet_45 : decode cX10_meet 45 = .ok (.iload_n 3, 1) := by decide +kernel
theorem dX10_meet_46 : decode cX10_meet 46 = .ok (.iadd, 1) := by decide +kernel
theorem dX10_meet_47 : decode cX10_meet 47 = .ok (.invokevirtual 297, 3) := by decide +kernel
theorem dX10_meet_50 : decode cX10_meet 50 = .ok (.aload_n 0, 1) := by decide +kernel
theorem dX10_meet_51 : decode cX10_meet 51 = .ok (.iconst 0, 1) := by decide +kernel
theorem dX10_meet_52 : decode cX10_meet 52 = .ok (.iload_n 2, 1) := by decide +kernel
theorem dX10_meet_53 : decode cX10_meet 53 = .ok (.aload_n 0, 1) := by decide +kernel
theorem dX10_meet_54 : decode cX10_meet 54 = .ok (.getfield 66, 3) := by decide +kernel
theorem dX10_meet_57 : decode cX10_meet 57 = .ok (.iconst 0, 1) := by decide +kernel
theorem dX10_meet_58 : decode cX10_meet 58 = .ok (.iaload, 1) := by decide +kernel
theorem dX10_meet_59 : decode cX10_meet 59 = .ok (.iload_n 3, 1) := by decide +kernel
theorem dX10_meet_60 : decode cX10_meet 60 = .ok (.iadd, 1) := by decide +kernel
theorem dX10_meet_61 : decode cX10_meet 61 = .ok (.invokevirtual 297, 3) := by decide +kernel
theorem dX10_meet_64 : decode cX10_meet 64 = .ok (.if_icmp .ne 7, 3) := by decide +kernel
theorem dX10_meet_67 : decode cX10_meet 67 = .ok (.iload_n 3, 1) := by decide +kernel
theorem dX10_meet_68 : decode cX10_meet 68 = .ok (.iconst 1, 1) := by decide +kernel
theorem dX10_meet_69 : decode cX10_meet 69 = .ok (.iadd, 1) := by decide +kernel
theorem dX10_meet_70 : decode cX10_meet 70 = .ok (.ireturn, 1) := by decide +kernel
theorem dX10_meet_71 : decode cX10_meet 71 = .ok (.iinc 3 1, 3) := by decide +kernel
theorem dX10_meet_74 : decode cX10_meet 74 = .ok (.goto (-49), 3) := by decide +kernel
theorem dX10_meet_77 : decode cX10_meet 77 = .ok (.iconst (-1), 1) := by decide +kernel
theorem dX10_meet_78 : decode cX10_meet 78 = .ok (.ireturn, 1) := by decide +kernel
theorem dX10_faced_0 : decode cX10_faced 0 = .ok (.aload_n 0, 1) := by decide +kernel
theorem dX10_faced_1 : decode cX10_faced 1 = .ok (.iconst 0, 1) := by decide +kernel
theorem dX10_faced_2 : decode cX10_faced 2 = .ok (.putfield 102, 3) := by decide +kernel
theorem dX10_faced_5 : decode cX10_faced 5 = .ok (.aload_n 0, 1) := by decide +kernel
theorem dX10_faced_6 : decode cX10_faced 6 = .ok (.iload_n 1, 1) := by decide +kernel
theorem dX10_faced_7 : decode cX10_faced 7 = .ok (.invokevirtual 377, 3) := by decide +kernel
theorem dX10_faced_10 : decode cX10_faced 10 = .ok (.ifCond .ne 5, 3) := by decide +kernel
theorem dX10_faced_13 : decode cX10_faced 13 = .ok (.iconst 0, 1) := by decide +kernel
theorem dX10_faced_14 : decode cX10_faced 14 = .ok (.ireturn, 1) := by decide +kernel
theorem dX10_faced_15 : decode cX10_faced 15 = .ok (.iconst 0, 1) := by decide +kernel
theorem dX10_faced_16 : decode cX10_faced 16 = .ok (.istore_n 2, 1) := by decide +kernel
theorem dX10_faced_17 : decode cX10_faced 17 = .ok (.iload_n 2, 1) := by decide +kernel
theorem dX10_faced_18 : decode cX10_faced 18 = .ok (.bipush 100, 2) := by decide +kernel
theorem dX10_faced_20 : decode cX10_faced 20 = .ok (.if_icmp .ge 63, 3) := by decide +kernel
theorem dX10_faced_23 : decode cX10_faced 23 = .ok (.aload_n 0, 1) := by decide +kernel
theorem dX10_faced_24 : decode cX10_faced 24 = .ok (.getfield 66, 3) := by decide +kernel
theorem dX10_faced_27 : decode cX10_faced 27 = .ok (.bipush 11, 2) := by decide +kernel
theorem dX10_faced_29 : decode cX10_faced 29 = .ok (.iload_n 1, 1) := by decide +kernel
theorem dX10_faced_30 : decode cX10_faced 30 = .ok (.iadd, 1) := by decide +kernel
theorem dX10_faced_31 : decode cX10_faced 31 = .ok (.iaload, 1) := by decide +kernel
theorem dX10_faced_32 : decode cX10_faced 32 = .ok (.iconst (-1), 1) := by decide +kernel
theorem dX10_faced_33 : decode cX10_faced 33 = .ok (.if_icmp .eq 50, 3) := by decide +kernel
theorem dX10_faced_36 : decode cX10_faced 36 = .ok (.aload_n 0, 1) := by decide +kernel
theorem dX10_faced_37 : decode cX10_faced 37 = .ok (.iconst 0, 1) := by decide +kernel
theorem dX10_faced_38 : decode cX10_faced 38 = .ok (.aload_n 0, 1) := by decide +kernel
theorem dX10_faced_39 : decode cX10_faced 39 = .ok (.getfield 66, 3) := by decide +kernel
theorem dX10_faced_42 : decode cX10_faced 42 = .ok (.bipush 11, 2) := by decide +kernel
theorem dX10_faced_44 : decode cX10_faced 44 = .ok (.iload_n 1, 1) := by decide +kernel
theorem dX10_faced_45 : decode cX10_faced 45 = .ok (.iadd, 1) := by decide +kernel
theorem dX10_faced_46 : decode cX10_faced 46 = .ok (.iaload, 1) := by decide +kernel
theorem dX10_faced_47 : decode cX10_faced 47 = .ok (.aload_n 0, 1) := by decide +kernel
theorem dX10_faced_48 : decode cX10_faced 48 = .ok (.getfield 66, 3) := by decide +kernel
theorem dX10_faced_51 : decode cX10_faced 51 = .ok (.iconst 0, 1) := by decide +kernel
theorem dX10_faced_52 : decode cX10_faced 52 = .ok (.iaload, 1) := by decide +kernel
theorem dX10_faced_53 : decode cX10_faced 53 = .ok (.iload_n 2, 1) := by decide +kernel
theorem dX10_faced_54 : decode cX10_faced 54 = .ok (.iadd, 1) := by decide +kernel
theorem dX10_faced_55 : decode cX10_faced 55 = .ok (.invokevirtual 306, 3) := by decide +kernel
theorem dX10_faced_58 : decode cX10_faced 58 = .ok (.aload_n 0, 1) := by decide +kernel
theorem dX10_faced_59 : decode cX10_faced 59 = .ok (.getfield 66, 3) := by decide +kernel
theorem dX10_faced_62 : decode cX10_faced 62 = .ok (.iconst 1, 1) := by decide +kernel
theorem dX10_faced_63 : decode cX10_faced 63 = .ok (.iload_n 1, 1) := by decide +kernel
theorem dX10_faced_64 : decode cX10_faced 64 = .ok (.iadd, 1) := by decide +kernel
theorem dX10_faced_65 : decode cX10_faced 65 = .ok (.iaload, 1) := by decide +kernel
theorem dX10_faced_66 : decode cX10_faced 66 = .ok (.ishr, 1) := by decide +kernel
theorem dX10_faced_67 : decode cX10_faced 67 = .ok (.iconst 1, 1) := by decide +kernel
theorem dX10_faced_68 : decode cX10_faced 68 = .ok (.iand, 1) := by decide +kernel
theorem dX10_faced_69 : decode cX10_faced 69 = .ok (.iconst 1, 1) := by decide +kernel
theorem dX10_faced_70 : decode cX10_faced 70 = .ok (.if_icmp .ne 7, 3) := by decide +kernel
theorem dX10_faced_73 : decode cX10_faced 73 = .ok (.iload_n 2, 1) := by decide +kernel
theorem dX10_faced_74 : decode cX10_faced 74 = .ok (.iconst 1, 1) := by decide +kernel
theorem dX10_faced_75 : decode cX10_faced 75 = .ok (.iadd, 1) := by decide +kernel
theorem dX10_faced_76 : decode cX10_faced 76 = .ok (.ireturn, 1) := by decide +kernel
theorem dX10_faced_77 : decode cX10_faced 77 = .ok (.iinc 2 1, 3) := by decide +kernel
theorem dX10_faced_80 : decode cX10_faced 80 = .ok (.goto (-63), 3) := by decide +kernel
theorem dX10_faced_83 : decode cX10_faced 83 = .ok (.iconst (-1), 1) := by decide +kernel
theorem dX10_faced_84 : decode cX10_faced 84 = .ok (.ireturn, 1) := by decide +kernel
theorem dX10_walks_0 : decode cX10_walks 0 = .ok (.aload_n 0, 1) := by decide +kernel
theorem dX10_walks_1 : decode cX10_walks 1 = .ok (.iconst 0, 1) := by decide +kernel
theorem dX10_walks_2 : decode cX10_walks 2 = .ok (.putfield 102, 3) := by decide +kernel
theorem dX10_walks_5 : decode cX10_walks 5 = .ok (.aload_n 0, 1) := by decide +kernel
theorem dX10_walks_6 : decode cX10_walks 6 = .ok (.iload_n 2, 1) := by decide +kernel
theorem dX10_walks_7 : decode cX10_walks 7 = .ok (.iconst 1, 1) := by decide +kernel
theorem dX10_walks_8 : decode cX10_walks 8 = .ok (.invokevirtual 365, 3) := by decide +kernel
theorem dX10_walks_11 : decode cX10_walks 11 = .ok (.ifCond .eq 13, 3) := by decide +kernel
theorem dX10_walks_14 : decode cX10_walks 14 = .ok (.aload_n 0, 1) := by decide +kernel
theorem dX10_walks_15 : decode cX10_walks 15 = .ok (.iload_n 1, 1) := by decide +kernel
theorem dX10_walks_16 : decode cX10_walks 16 = .ok (.iconst 1, 1) := by decide +kernel
theorem dX10_walks_17 : decode cX10_walks 17 = .ok (.iconst 2, 1) := by decide +kernel
theorem dX10_walks_18 : decode cX10_walks 18 = .ok (.invokevirtual 399, 3) := by decide +kernel
theorem dX10_walks_21 : decode cX10_walks 21 = .ok (.ifCond .ne 5, 3) := by decide +kernel
theorem dX10_walks_24 : decode cX10_walks 24 = .ok (.iconst 0, 1) := by decide +kernel
theorem dX10_walks_25 : decode cX10_walks 25 = .ok (.ireturn, 1) := by decide +kernel
theorem dX10_walks_26 : decode cX10_walks 26 = .ok (.iconst 0, 1) := by decide +kernel
theorem dX10_walks_27 : decode cX10_walks 27 = .ok (.istore_n 3, 1) := by decide +kernel
theorem dX10_walks_28 : decode cX10_walks 28 = .ok (.iconst 0, 1) := by decide +kernel
theorem dX10_walks_29 : decode cX10_walks 29 = .ok (.istore 4, 2) := by decide +kernel
theorem dX10_walks_31 : decode cX10_walks 31 = .ok (.iload 4, 2) := by decide +kernel
theorem dX10_walks_33 : decode cX10_walks 33 = .ok (.bipush 6, 2) := by decide +kernel
theorem dX10_walks_35 : decode cX10_walks 35 = .ok (.if_icmp .ge 17, 3) := by decide +kernel
theorem dX10_walks_38 : decode cX10_walks 38 = .ok (.aload_n 0, 1) := by decide +kernel
theorem dX10_walks_39 : decode cX10_walks 39 = .ok (.getfield 81, 3) := by decide +kernel
theorem dX10_walks_42 : decode cX10_walks 42 = .ok (.iload 4, 2) := by decide +kernel
theorem dX10_walks_44 : decode cX10_walks 44 = .ok (.iconst 0, 1) := by decide +kernel
theorem dX10_walks_45 : decode cX10_walks 45 = .ok (.iastore, 1) := by decide +kernel
theorem dX10_walks_46 : decode cX10_walks 46 = .ok (.iinc 4 1, 3) := by decide +kernel
theorem dX10_walks_49 : decode cX10_walks 49 = .ok (.goto (-18), 3) := by decide +kernel
theorem dX10_walks_52 : decode cX10_walks 52 = .ok (.iconst 0, 1) := by decide +kernel
theorem dX10_walks_53 : decode cX10_walks 53 = .ok (.istore 4, 2) := by decide +kernel
theorem dX10_walks_55 : decode cX10_walks 55 = .ok (.iload 4, 2) := by decide +kernel
theorem dX10_walks_57 : decode cX10_walks 57 = .ok (.iload_n 1, 1) := by decide +kernel
theorem dX10_walks_58 : decode cX10_walks 58 = .ok (.if_icmp .ge 82, 3) := by decide +kernel
theorem dX10_walks_61 : decode cX10_walks 61 = .ok (.iconst 0, 1) := by decide +kernel
theorem dX10_walks_62 : decode cX10_walks 62 = .ok (.istore 5, 2) := by decide +kernel
theorem dX10_walks_64 : decode cX10_walks 64 = .ok (.iload 5, 2) := by decide +kernel
theorem dX10_walks_66 : decode cX10_walks 66 = .ok (.aload_n 0, 1) := by decide +kernel
theorem dX10_walks_67 : decode cX10_walks 67 = .ok (.getfield 273, 3) := by decide +kernel
theorem dX10_walks_70 : decode cX10_walks 70 = .ok (.if_icmp .ge 64, 3) := by decide +kernel
theorem dX10_walks_73 : decode cX10_walks 73 = .ok (.aload_n 0, 1) := by decide +kernel
theorem dX10_walks_74 : decode cX10_walks 74 = .ok (.getfield 81, 3) := by decide +kernel
theorem dX10_walks_77 : decode cX10_walks 77 = .ok (.aload_n 0, 1) := by decide +kernel
theorem dX10_walks_78 : decode cX10_walks 78 = .ok (.iconst 0, 1) := by decide +kernel
theorem dX10_walks_79 : decode cX10_walks 79 = .ok (.iload 5, 2) := by decide +kernel
theorem dX10_walks_81 : decode cX10_walks 81 = .ok (.aload_n 0, 1) := by decide +kernel
theorem dX10_walks_82 : decode cX10_walks 82 = .ok (.getfield 66, 3) := by decide +kernel
theorem dX10_walks_85 : decode cX10_walks 85 = .ok (.iconst 0, 1) := by decide +kernel
theorem dX10_walks_86 : decode cX10_walks 86 = .ok (.iaload, 1) := by decide +kernel
theorem dX10_walks_87 : decode cX10_walks 87 = .ok (.iload 4, 2) := by decide +kernel
theorem dX10_walks_89 : decode cX10_walks 89 = .ok (.iadd, 1) := by decide +kernel
theorem dX10_walks_90 : decode cX10_walks 90 = .ok (.invokevirtual 297, 3) := by decide +kernel
theorem dX10_walks_93 : decode cX10_walks 93 = .ok (.dup2, 1) := by decide +kernel
theorem dX10_walks_94 : decode cX10_walks 94 = .ok (.iaload, 1) := by decide +kernel
theorem dX10_walks_95 : decode cX10_walks 95 = .ok (.iconst 1, 1) := by decide +kernel
theorem dX10_walks_96 : decode cX10_walks 96 = .ok (.iadd, 1) := by decide +kernel
theorem dX10_walks_97 : decode cX10_walks 97 = .ok (.iastore, 1) := by decide +kernel
theorem dX10_walks_98 : decode cX10_walks 98 = .ok (.iload_n 3, 1) := by decide +kernel
theorem dX10_walks_99 : decode cX10_walks 99 = .ok (.aload_n 0, 1) := by decide +kernel
theorem dX10_walks_100 : decode cX10_walks 100 = .ok (.iconst 0, 1) := by decide +kernel
theorem dX10_walks_101 : decode cX10_walks 101 = .ok (.iload 5, 2) := by decide +kernel
theorem dX10_walks_103 : decode cX10_walks 103 = .ok (.aload_n 0, 1) := by decide +kernel
theorem dX10_walks_104 : decode cX10_walks 104 = .ok (.getfield 66, 3) := by decide +kernel
theorem dX10_walks_107 : decode cX10_walks 107 = .ok (.iconst 0, 1) := by decide +kernel
theorem dX10_walks_108 : decode cX10_walks 108 = .ok (.iaload, 1) := by decide +kernel
theorem dX10_walks_109 : decode cX10_walks 109 = .ok (.iload 4, 2) := by decide +kernel
theorem dX10_walks_111 : decode cX10_walks 111 = .ok (.iadd, 1) := by decide +kernel
theorem dX10_walks_112 : decode cX10_walks 112 = .ok (.invokevirtual 306, 3) := by decide +kernel
theorem dX10_walks_115 : decode cX10_walks 115 = .ok (.ifCond .eq 10, 3) := by decide +kernel
theorem dX10_walks_118 : decode cX10_walks 118 = .ok (.iconst 1, 1) := by decide +kernel
theorem dX10_walks_119 : decode cX10_walks 119 = .ok (.iload 5, 2) := by decide +kernel
theorem dX10_walks_121 : decode cX10_walks 121 = .ok (.ishl, 1) := by decide +kernel
theorem dX10_walks_122 : decode cX10_walks 122 = .ok (.goto 4, 3) := by decide +kernel
theorem dX10_walks_125 : decode cX10_walks 125 = .ok (.iconst 0, 1) := by decide +kernel
theorem dX10_walks_126 : decode cX10_walks 126 = .ok (.ior, 1) := by decide +kernel
theorem dX10_walks_127 : decode cX10_walks 127 = .ok (.istore_n 3, 1) := by decide +kernel
theorem dX10_walks_128 : decode cX10_walks 128 = .ok (.iinc 5 1, 3) := by decide +kernel
theorem dX10_walks_131 : decode cX10_walks 131 = .ok (.goto (-67), 3) := by decide +kernel
theorem dX10_walks_134 : decode cX10_walks 134 = .ok (.iinc 4 1, 3) := by decide +kernel
theorem dX10_walks_137 : decode cX10_walks 137 = .ok (.goto (-82), 3) := by decide +kernel
theorem dX10_walks_140 : decode cX10_walks 140 = .ok (.iconst 0, 1) := by decide +kernel
theorem dX10_walks_141 : decode cX10_walks 141 = .ok (.istore 4, 2) := by decide +kernel
theorem dX10_walks_143 : decode cX10_walks 143 = .ok (.iconst 1, 1) := by decide +kernel
theorem dX10_walks_144 : decode cX10_walks 144 = .ok (.istore 5, 2) := by decide +kernel
theorem dX10_walks_146 : decode cX10_walks 146 = .ok (.iload 5, 2) := by decide +kernel
theorem dX10_walks_148 : decode cX10_walks 148 = .ok (.aload_n 0, 1) := by decide +kernel
theorem dX10_walks_149 : decode cX10_walks 149 = .ok (.getfield 7, 3) := by decide +kernel
theorem dX10_walks_152 : decode cX10_walks 152 = .ok (.if_icmp .ge 30, 3) := by decide +kernel
theorem dX10_walks_155 : decode cX10_walks 155 = .ok (.aload_n 0, 1) := by decide +kernel
theorem dX10_walks_156 : decode cX10_walks 156 = .ok (.getfield 81, 3) := by decide +kernel
theorem dX10_walks_159 : decode cX10_walks 159 = .ok (.iload 5, 2) := by decide +kernel
theorem dX10_walks_161 : decode cX10_walks 161 = .ok (.iaload, 1) := by decide +kernel
theorem dX10_walks_162 : decode cX10_walks 162 = .ok (.aload_n 0, 1) := by decide +kernel
theorem dX10_walks_163 : decode cX10_walks 163 = .ok (.getfield 81, 3) := by decide +kernel
theorem dX10_walks_166 : decode cX10_walks 166 = .ok (.iload 4, 2) := by decide +kernel
theorem dX10_walks_168 : decode cX10_walks 168 = .ok (.iaload, 1) := by decide +kernel
theorem dX10_walks_169 : decode cX10_walks 169 = .ok (.if_icmp .le 7, 3) := by decide +kernel
theorem dX10_walks_172 : decode cX10_walks 172 = .ok (.iload 5, 2) := by decide +kernel
theorem dX10_walks_174 : decode cX10_walks 174 = .ok (.istore 4, 2) := by decide +kernel
theorem dX10_walks_176 : decode cX10_walks 176 = .ok (.iinc 5 1, 3) := by decide +kernel
theorem dX10_walks_179 : decode cX10_walks 179 = .ok (.goto (-33), 3) := by decide +kernel
theorem dX10_walks_182 : decode cX10_walks 182 = .ok (.iconst 0, 1) := by decide +kernel
theorem dX10_walks_183 : decode cX10_walks 183 = .ok (.istore 5, 2) := by decide +kernel
theorem dX10_walks_185 : decode cX10_walks 185 = .ok (.iconst 0, 1) := by decide +kernel
theorem dX10_walks_186 : decode cX10_walks 186 = .ok (.istore 6, 2) := by decide +kernel
theorem dX10_walks_188 : decode cX10_walks 188 = .ok (.iload 6, 2) := by decide +kernel
theorem dX10_walks_190 : decode cX10_walks 190 = .ok (.aload_n 0, 1) := by decide +kernel
theorem dX10_walks_191 : decode cX10_walks 191 = .ok (.getfield 273, 3) := by decide +kernel
theorem dX10_walks_194 : decode cX10_walks 194 = .ok (.if_icmp .ge 36, 3) := by decide +kernel
theorem dX10_walks_197 : decode cX10_walks 197 = .ok (.iload 5, 2) := by decide +kernel
theorem dX10_walks_199 : decode cX10_walks 199 = .ok (.aload_n 0, 1) := by decide +kernel
theorem dX10_walks_200 : decode cX10_walks 200 = .ok (.iconst 0, 1) := by decide +kernel
theorem dX10_walks_201 : decode cX10_walks 201 = .ok (.iload 6, 2) := by decide +kernel
theorem dX10_walks_203 : decode cX10_walks 203 = .ok (.invokevirtual 300, 3) := by decide +kernel
theorem dX10_walks_206 : decode cX10_walks 206 = .ok (.ifCond .eq 14, 3) := by decide +kernel
theorem dX10_walks_209 : decode cX10_walks 209 = .ok (.iconst 1, 1) := by decide +kernel
theorem dX10_walks_210 : decode cX10_walks 210 = .ok (.iload 6, 2) := by decide +kernel
theorem dX10_walks_212 : decode cX10_walks 212 = .ok (.ishl, 1) := by decide +kernel
theorem dX10_walks_213 : decode cX10_walks 213 = .ok (.iload_n 3, 1) := by decide +kernel
theorem dX10_walks_214 : decode cX10_walks 214 = .ok (.iconst (-1), 1) := by decide +kernel
theorem dX10_walks_215 : decode cX10_walks 215 = .ok (.ixor, 1) := by decide +kernel
theorem dX10_walks_216 : decode cX10_walks 216 = .ok (.iand, 1) := by decide +kernel
theorem dX10_walks_217 : decode cX10_walks 217 = .ok (.goto 4, 3) := by decide +kernel
theorem dX10_walks_220 : decode cX10_walks 220 = .ok (.iconst 0, 1) := by decide +kernel
theorem dX10_walks_221 : decode cX10_walks 221 = .ok (.ior, 1) := by decide +kernel
theorem dX10_walks_222 : decode cX10_walks 222 = .ok (.istore 5, 2) := by decide +kernel
theorem dX10_walks_224 : decode cX10_walks 224 = .ok (.iinc 6 1, 3) := by decide +kernel
theorem dX10_walks_227 : decode cX10_walks 227 = .ok (.goto (-39), 3) := by decide +kernel
theorem dX10_walks_230 : decode cX10_walks 230 = .ok (.iload_n 2, 1) := by decide +kernel
theorem dX10_walks_231 : decode cX10_walks 231 = .ok (.ifCond .ne 8, 3) := by decide +kernel
theorem dX10_walks_234 : decode cX10_walks 234 = .ok (.iload 4, 2) := by decide +kernel
theorem dX10_walks_236 : decode cX10_walks 236 = .ok (.goto 5, 3) := by decide +kernel
theorem dX10_walks_239 : decode cX10_walks 239 = .ok (.iload 5, 2) := by decide +kernel
theorem dX10_walks_241 : decode cX10_walks 241 = .ok (.ireturn, 1) := by decide +kernel
theorem dX10_note_0 : decode cX10_note 0 = .ok (.aload_n 0, 1) := by decide +kernel
theorem dX10_note_1 : decode cX10_note 1 = .ok (.iconst 0, 1) := by decide +kernel
theorem dX10_note_2 : decode cX10_note 2 = .ok (.putfield 102, 3) := by decide +kernel
theorem dX10_note_5 : decode cX10_note 5 = .ok (.aload_n 0, 1) := by decide +kernel
theorem dX10_note_6 : decode cX10_note 6 = .ok (.iload_n 1, 1) := by decide +kernel
theorem dX10_note_7 : decode cX10_note 7 = .ok (.invokevirtual 377, 3) := by decide +kernel
theorem dX10_note_10 : decode cX10_note 10 = .ok (.ifCond .ne 5, 3) := by decide +kernel
theorem dX10_note_13 : decode cX10_note 13 = .ok (.iconst 0, 1) := by decide +kernel
theorem dX10_note_14 : decode cX10_note 14 = .ok (.ireturn, 1) := by decide +kernel
theorem dX10_note_15 : decode cX10_note 15 = .ok (.aload_n 0, 1) := by decide +kernel
theorem dX10_note_16 : decode cX10_note 16 = .ok (.getfield 286, 3) := by decide +kernel
theorem dX10_note_19 : decode cX10_note 19 = .ok (.bipush 8, 2) := by decide +kernel
theorem dX10_note_21 : decode cX10_note 21 = .ok (.if_icmp .eq 13, 3) := by decide +kernel
theorem dX10_note_24 : decode cX10_note 24 = .ok (.iload_n 2, 1) := by decide +kernel
theorem dX10_note_25 : decode cX10_note 25 = .ok (.iconst 0, 1) := by decide +kernel
theorem dX10_note_26 : decode cX10_note 26 = .ok (.bipush 30, 2) := by decide +kernel
theorem dX10_note_28 : decode cX10_note 28 = .ok (.invokestatic 349, 3) := by decide +kernel
theorem dX10_note_31 : decode cX10_note 31 = .ok (.ifCond .ne 9, 3) := by decide +kernel
theorem dX10_note_34 : decode cX10_note 34 = .ok (.aload_n 0, 1) := by decide +kernel
theorem dX10_note_35 : decode cX10_note 35 = .ok (.iconst 2, 1) := by decide +kernel
theorem dX10_note_36 : decode cX10_note 36 = .ok (.invokevirtual 380, 3) := by decide +kernel
theorem dX10_note_39 : decode cX10_note 39 = .ok (.ireturn, 1) := by decide +kernel
theorem dX10_note_40 : decode cX10_note 40 = .ok (.aload_n 0, 1) := by decide +kernel
theorem dX10_note_41 : decode cX10_note 41 = .ok (.getfield 84, 3) := by decide +kernel
theorem dX10_note_44 : decode cX10_note 44 = .ok (.iconst 3, 1) := by decide +kernel
theorem dX10_note_45 : decode cX10_note 45 = .ok (.aload_n 0, 1) := by decide +kernel
theorem dX10_note_46 : decode cX10_note 46 = .ok (.getfield 286, 3) := by decide +kernel
theorem dX10_note_49 : decode cX10_note 49 = .ok (.imul, 1) := by decide +kernel
theorem dX10_note_50 : decode cX10_note 50 = .ok (.iload_n 1, 1) := by decide +kernel
theorem dX10_note_51 : decode cX10_note 51 = .ok (.iastore, 1) := by decide +kernel
theorem dX10_note_52 : decode cX10_note 52 = .ok (.aload_n 0, 1) := by decide +kernel
theorem dX10_note_53 : decode cX10_note 53 = .ok (.getfield 84, 3) := by decide +kernel
theorem dX10_note_56 : decode cX10_note 56 = .ok (.iconst 3, 1) := by decide +kernel
theorem dX10_note_57 : decode cX10_note 57 = .ok (.aload_n 0, 1) := by decide +kernel
theorem dX10_note_58 : decode cX10_note 58 = .ok (.getfield 286, 3) := by decide +kernel
theorem dX10_note_61 : decode cX10_note 61 = .ok (.imul, 1) := by decide +kernel
theorem dX10_note_62 : decode cX10_note 62 = .ok (.iconst 1, 1) := by decide +kernel
theorem dX10_note_63 : decode cX10_note 63 = .ok (.iadd, 1) := by decide +kernel
theorem dX10_note_64 : decode cX10_note 64 = .ok (.iload_n 2, 1) := by decide +kernel
theorem dX10_note_65 : decode cX10_note 65 = .ok (.iastore, 1) := by decide +kernel
theorem dX10_note_66 : decode cX10_note 66 = .ok (.aload_n 0, 1) := by decide +kernel
theorem dX10_note_67 : decode cX10_note 67 = .ok (.getfield 84, 3) := by decide +kernel
theorem dX10_note_70 : decode cX10_note 70 = .ok (.iconst 3, 1) := by decide +kernel
theorem dX10_note_71 : decode cX10_note 71 = .ok (.aload_n 0, 1) := by decide +kernel
theorem dX10_note_72 : decode cX10_note 72 = .ok (.getfield 286, 3) := by decide +kernel
theorem dX10_note_75 : decode cX10_note 75 = .ok (.imul, 1) := by decide +kernel
theorem dX10_note_76 : decode cX10_note 76 = .ok (.iconst 2, 1) := by decide +kernel
theorem dX10_note_77 : decode cX10_note 77 = .ok (.iadd, 1) := by decide +kernel
theorem dX10_note_78 : decode cX10_note 78 = .ok (.iload_n 3, 1) := by decide +kernel
theorem dX10_note_79 : decode cX10_note 79 = .ok (.ifCond .eq 7, 3) := by decide +kernel
theorem dX10_note_82 : decode cX10_note 82 = .ok (.iconst 1, 1) := by decide +kernel
theorem dX10_note_83 : decode cX10_note 83 = .ok (.goto 4, 3) := by decide +kernel
theorem dX10_note_86 : decode cX10_note 86 = .ok (.iconst 0, 1) := by decide +kernel
theorem dX10_note_87 : decode cX10_note 87 = .ok (.iastore, 1) := by decide +kernel
theorem dX10_note_88 : decode cX10_note 88 = .ok (.aload_n 0, 1) := by decide +kernel
theorem dX10_note_89 : decode cX10_note 89 = .ok (.dup, 1) := by decide +kernel
theorem dX10_note_90 : decode cX10_note 90 = .ok (.getfield 286, 3) := by decide +kernel
theorem dX10_note_93 : decode cX10_note 93 = .ok (.iconst 1, 1) := by decide +kernel
theorem dX10_note_94 : decode cX10_note 94 = .ok (.iadd, 1) := by decide +kernel
theorem dX10_note_95 : decode cX10_note 95 = .ok (.putfield 286, 3) := by decide +kernel
theorem dX10_note_98 : decode cX10_note 98 = .ok (.aload_n 0, 1) := by decide +kernel
theorem dX10_note_99 : decode cX10_note 99 = .ok (.getfield 286, 3) := by decide +kernel
theorem dX10_note_102 : decode cX10_note 102 = .ok (.ireturn, 1) := by decide +kernel
theorem dX10_forget_0 : decode cX10_forget 0 = .ok (.aload_n 0, 1) := by decide +kernel
theorem dX10_forget_1 : decode cX10_forget 1 = .ok (.iconst 0, 1) := by decide +kernel
theorem dX10_forget_2 : decode cX10_forget 2 = .ok (.putfield 102, 3) := by decide +kernel
theorem dX10_forget_5 : decode cX10_forget 5 = .ok (.aload_n 0, 1) := by decide +kernel
theorem dX10_forget_6 : decode cX10_forget 6 = .ok (.iconst 0, 1) := by decide +kernel
theorem dX10_forget_7 : decode cX10_forget 7 = .ok (.putfield 286, 3) := by decide +kernel
theorem dX10_forget_10 : decode cX10_forget 10 = .ok (.return_, 1) := by decide +kernel
theorem dX10_isNoted_0 : decode cX10_isNoted 0 = .ok (.iconst 0, 1) := by decide +kernel
theorem dX10_isNoted_1 : decode cX10_isNoted 1 = .ok (.istore_n 1, 1) := by decide +kernel
theorem dX10_isNoted_2 : decode cX10_isNoted 2 = .ok (.iload_n 1, 1) := by decide +kernel
theorem dX10_isNoted_3 : decode cX10_isNoted 3 = .ok (.bipush 30, 2) := by decide +kernel
theorem dX10_isNoted_5 : decode cX10_isNoted 5 = .ok (.if_icmp .gt 120, 3) := by decide +kernel
theorem dX10_isNoted_8 : decode cX10_isNoted 8 = .ok (.iconst 0, 1) := by decide +kernel
theorem dX10_isNoted_9 : decode cX10_isNoted 9 = .ok (.istore_n 2, 1) := by decide +kernel
theorem dX10_isNoted_10 : decode cX10_isNoted 10 = .ok (.iload_n 2, 1) := by decide +kernel
theorem dX10_isNoted_11 : decode cX10_isNoted 11 = .ok (.aload_n 0, 1) := by decide +kernel
theorem dX10_isNoted_12 : decode cX10_isNoted 12 = .ok (.getfield 286, 3) := by decide +kernel
theorem dX10_isNoted_15 : decode cX10_isNoted 15 = .ok (.if_icmp .ge 63, 3) := by decide +kernel
theorem dX10_isNoted_18 : decode cX10_isNoted 18 = .ok (.aload_n 0, 1) := by decide +kernel
theorem dX10_isNoted_19 : decode cX10_isNoted 19 = .ok (.getfield 84, 3) := by decide +kernel
theorem dX10_isNoted_22 : decode cX10_isNoted 22 = .ok (.iconst 3, 1) := by decide +kernel
theorem dX10_isNoted_23 : decode cX10_isNoted 23 = .ok (.iload_n 2, 1) := by decide +kernel
theorem dX10_isNoted_24 : decode cX10_isNoted 24 = .ok (.imul, 1) := by decide +kernel
theorem dX10_isNoted_25 : decode cX10_isNoted 25 = .ok (.iconst 1, 1) := by decide +kernel
theorem dX10_isNoted_26 : decode cX10_isNoted 26 = .ok (.iadd, 1) := by decide +kernel
theorem dX10_isNoted_27 : decode cX10_isNoted 27 = .ok (.iaload, 1) := by decide +kernel
theorem dX10_isNoted_28 : decode cX10_isNoted 28 = .ok (.iload_n 1, 1) := by decide +kernel
theorem dX10_isNoted_29 : decode cX10_isNoted 29 = .ok (.if_icmp .ne 43, 3) := by decide +kernel
theorem dX10_isNoted_32 : decode cX10_isNoted 32 = .ok (.aload_n 0, 1) := by decide +kernel
theorem dX10_isNoted_33 : decode cX10_isNoted 33 = .ok (.getfield 66, 3) := by decide +kernel
theorem dX10_isNoted_36 : decode cX10_isNoted 36 = .ok (.bipush 116, 2) := by decide +kernel
theorem dX10_isNoted_38 : decode cX10_isNoted 38 = .ok (.aload_n 0, 1) := by decide +kernel
theorem dX10_isNoted_39 : decode cX10_isNoted 39 = .ok (.getfield 84, 3) := by decide +kernel
theorem dX10_isNoted_42 : decode cX10_isNoted 42 = .ok (.iconst 3, 1) := by decide +kernel
theorem dX10_isNoted_43 : decode cX10_isNoted 43 = .ok (.iload_n 2, 1) := by decide +kernel
theorem dX10_isNoted_44 : decode cX10_isNoted 44 = .ok (.imul, 1) := by decide +kernel
theorem dX10_isNoted_45 : decode cX10_isNoted 45 = .ok (.iaload, 1) := by decide +kernel
theorem dX10_isNoted_46 : decode cX10_isNoted 46 = .ok (.iadd, 1) := by decide +kernel
theorem dX10_isNoted_47 : decode cX10_isNoted 47 = .ok (.iaload, 1) := by decide +kernel
theorem dX10_isNoted_48 : decode cX10_isNoted 48 = .ok (.iconst (-1), 1) := by decide +kernel
theorem dX10_isNoted_49 : decode cX10_isNoted 49 = .ok (.if_icmp .eq 7, 3) := by decide +kernel
theorem dX10_isNoted_52 : decode cX10_isNoted 52 = .ok (.iconst 1, 1) := by decide +kernel
theorem dX10_isNoted_53 : decode cX10_isNoted 53 = .ok (.goto 4, 3) := by decide +kernel
theorem dX10_isNoted_56 : decode cX10_isNoted 56 = .ok (.iconst 0, 1) := by decide +kernel
theorem dX10_isNoted_57 : decode cX10_isNoted 57 = .ok (.aload_n 0, 1) := by decide +kernel
theorem dX10_isNoted_58 : decode cX10_isNoted 58 = .ok (.getfield 84, 3) := by decide +kernel
theorem dX10_isNoted_61 : decode cX10_isNoted 61 = .ok (.iconst 3, 1) := by decide +kernel
theorem dX10_isNoted_62 : decode cX10_isNoted 62 = .ok (.iload_n 2, 1) := by decide +kernel
theorem dX10_isNoted_63 : decode cX10_isNoted 63 = .ok (.imul, 1) := by decide +kernel
theorem dX10_isNoted_64 : decode cX10_isNoted 64 = .ok (.iconst 2, 1) := by decide +kernel
theorem dX10_isNoted_65 : decode cX10_isNoted 65 = .ok (.iadd, 1) := by decide +kernel
theorem dX10_isNoted_66 : decode cX10_isNoted 66 = .ok (.iaload, 1) := by decide +kernel
theorem dX10_isNoted_67 : decode cX10_isNoted 67 = .ok (.if_icmp .eq 5, 3) := by decide +kernel
theorem dX10_isNoted_70 : decode cX10_isNoted 70 = .ok (.iconst 0, 1) := by decide +kernel
theorem dX10_isNoted_71 : decode cX10_isNoted 71 = .ok (.ireturn, 1) := by decide +kernel
theorem dX10_isNoted_72 : decode cX10_isNoted 72 = .ok (.iinc 2 1, 3) := by decide +kernel
theorem dX10_isNoted_75 : decode cX10_isNoted 75 = .ok (.goto (-65), 3) := by decide +kernel
theorem dX10_isNoted_78 : decode cX10_isNoted 78 = .ok (.iload_n 1, 1) := by decide +kernel
theorem dX10_isNoted_79 : decode cX10_isNoted 79 = .ok (.bipush 10, 2) := by decide +kernel
theorem dX10_isNoted_81 : decode cX10_isNoted 81 = .ok (.if_icmp .ne 32, 3) := by decide +kernel
theorem dX10_isNoted_84 : decode cX10_isNoted 84 = .ok (.iconst 0, 1) := by decide +kernel
theorem dX10_isNoted_85 : decode cX10_isNoted 85 = .ok (.istore_n 2, 1) := by decide +kernel
theorem dX10_isNoted_86 : decode cX10_isNoted 86 = .ok (.iload_n 2, 1) := by decide +kernel
theorem dX10_isNoted_87 : decode cX10_isNoted 87 = .ok (.bipush 20, 2) := by decide +kernel
theorem dX10_isNoted_89 : decode cX10_isNoted 89 = .ok (.if_icmp .ge 24, 3) := by decide +kernel
theorem dX10_isNoted_92 : decode cX10_isNoted 92 = .ok (.aload_n 0, 1) := by decide +kernel
theorem dX10_isNoted_93 : decode cX10_isNoted 93 = .ok (.getfield 87, 3) := by decide +kernel
theorem dX10_isNoted_96 : decode cX10_isNoted 96 = .ok (.iload_n 2, 1) := by decide +kernel
theorem dX10_isNoted_97 : decode cX10_isNoted 97 = .ok (.aload_n 0, 1) := by decide +kernel
theorem dX10_isNoted_98 : decode cX10_isNoted 98 = .ok (.getfield 66, 3) := by decide +kernel
theorem dX10_isNoted_101 : decode cX10_isNoted 101 = .ok (.bipush 116, 2) := by decide +kernel
theorem dX10_isNoted_103 : decode cX10_isNoted 103 = .ok (.iload_n 2, 1) := by decide +kernel
theorem dX10_isNoted_104 : decode cX10_isNoted 104 = .ok (.iadd, 1) := by decide +kernel
theorem dX10_isNoted_105 : decode cX10_isNoted 105 = .ok (.iaload, 1) := by decide +kernel
theorem dX10_isNoted_106 : decode cX10_isNoted 106 = .ok (.iastore, 1) := by decide +kernel
theorem dX10_isNoted_107 : decode cX10_isNoted 107 = .ok (.iinc 2 1, 3) := by decide +kernel
theorem dX10_isNoted_110 : decode cX10_isNoted 110 = .ok (.goto (-24), 3) := by decide +kernel
theorem dX10_isNoted_113 : decode cX10_isNoted 113 = .ok (.aload_n 0, 1) := by decide +kernel
theorem dX10_isNoted_114 : decode cX10_isNoted 114 = .ok (.bipush 105, 2) := by decide +kernel
theorem dX10_isNoted_116 : decode cX10_isNoted 116 = .ok (.invokevirtual 343, 3) := by decide +kernel
theorem dX10_isNoted_119 : decode cX10_isNoted 119 = .ok (.iinc 1 1, 3) := by decide +kernel
theorem dX10_isNoted_122 : decode cX10_isNoted 122 = .ok (.goto (-120), 3) := by decide +kernel
theorem dX10_isNoted_125 : decode cX10_isNoted 125 = .ok (.iconst 1, 1) := by decide +kernel
theorem dX10_isNoted_126 : decode cX10_isNoted 126 = .ok (.ireturn, 1) := by decide +kernel
theorem dX10_isGuess_0 : decode cX10_isGuess 0 = .ok (.iload_n 1, 1) := by decide +kernel
theorem dX10_isGuess_1 : decode cX10_isGuess 1 = .ok (.bipush 10, 2) := by decide +kernel
theorem dX10_isGuess_3 : decode cX10_isGuess 3 = .ok (.idiv, 1) := by decide +kernel
theorem dX10_isGuess_4 : decode cX10_isGuess 4 = .ok (.istore_n 2, 1) := by decide +kernel
theorem dX10_isGuess_5 : decode cX10_isGuess 5 = .ok (.aload_n 0, 1) := by decide +kernel
theorem dX10_isGuess_6 : decode cX10_isGuess 6 = .ok (.getfield 66, 3) := by decide +kernel
theorem dX10_isGuess_9 : decode cX10_isGuess 9 = .ok (.bipush 49, 2) := by decide +kernel
theorem dX10_isGuess_11 : decode cX10_isGuess 11 = .ok (.iload_n 2, 1) := by decide +kernel
theorem dX10_isGuess_12 : decode cX10_isGuess 12 = .ok (.iadd, 1) := by decide +kernel
theorem dX10_isGuess_13 : decode cX10_isGuess 13 = .ok (.iaload, 1) := by decide +kernel
theorem dX10_isGuess_14 : decode cX10_isGuess 14 = .ok (.iload_n 1, 1) := by decide +kernel
theorem dX10_isGuess_15 : decode cX10_isGuess 15 = .ok (.bipush 10, 2) := by decide +kernel
theorem dX10_isGuess_17 : decode cX10_isGuess 17 = .ok (.irem, 1) := by decide +kernel
theorem dX10_isGuess_18 : decode cX10_isGuess 18 = .ok (.if_icmp .ne 5, 3) := by decide +kernel
theorem dX10_isGuess_21 : decode cX10_isGuess 21 = .ok (.iconst 0, 1) := by decide +kernel
theorem dX10_isGuess_22 : decode cX10_isGuess 22 = .ok (.ireturn, 1) := by decide +kernel
theorem dX10_isGuess_23 : decode cX10_isGuess 23 = .ok (.aload_n 0, 1) := by decide +kernel
theorem dX10_isGuess_24 : decode cX10_isGuess 24 = .ok (.invokevirtual 393, 3) := by decide +kernel
theorem dX10_isGuess_27 : decode cX10_isGuess 27 = .ok (.aload_n 0, 1) := by decide +kernel
theorem dX10_isGuess_28 : decode cX10_isGuess 28 = .ok (.getfield 66, 3) := by decide +kernel
theorem dX10_isGuess_31 : decode cX10_isGuess 31 = .ok (.sipush 154, 3) := by decide +kernel
theorem dX10_isGuess_34 : decode cX10_isGuess 34 = .ok (.iload_n 2, 1) := by decide +kernel
theorem dX10_isGuess_35 : decode cX10_isGuess 35 = .ok (.iadd, 1) := by decide +kernel
theorem dX10_isGuess_36 : decode cX10_isGuess 36 = .ok (.iload_n 1, 1) := by decide +kernel
theorem dX10_isGuess_37 : decode cX10_isGuess 37 = .ok (.bipush 10, 2) := by decide +kernel
theorem dX10_isGuess_39 : decode cX10_isGuess 39 = .ok (.irem, 1) := by decide +kernel
theorem dX10_isGuess_40 : decode cX10_isGuess 40 = .ok (.iastore, 1) := by decide +kernel
theorem dX10_isGuess_41 : decode cX10_isGuess 41 = .ok (.aload_n 0, 1) := by decide +kernel
theorem dX10_isGuess_42 : decode cX10_isGuess 42 = .ok (.invokevirtual 422, 3) := by decide +kernel
theorem dX10_isGuess_45 : decode cX10_isGuess 45 = .ok (.ireturn, 1) := by decide +kernel
theorem dX10_vain_0 : decode cX10_vain 0 = .ok (.aload_n 0, 1) := by decide +kernel
theorem dX10_vain_1 : decode cX10_vain 1 = .ok (.iconst 0, 1) := by decide +kernel
theorem dX10_vain_2 : decode cX10_vain 2 = .ok (.putfield 102, 3) := by decide +kernel
theorem dX10_vain_5 : decode cX10_vain 5 = .ok (.aload_n 0, 1) := by decide +kernel
theorem dX10_vain_6 : decode cX10_vain 6 = .ok (.iload_n 1, 1) := by decide +kernel
theorem dX10_vain_7 : decode cX10_vain 7 = .ok (.iconst 2, 1) := by decide +kernel
theorem dX10_vain_8 : decode cX10_vain 8 = .ok (.invokevirtual 365, 3) := by decide +kernel
theorem dX10_vain_11 : decode cX10_vain 11 = .ok (.ifCond .ne 5, 3) := by decide +kernel
theorem dX10_vain_14 : decode cX10_vain 14 = .ok (.iconst 0, 1) := by decide +kernel
theorem dX10_vain_15 : decode cX10_vain 15 = .ok (.ireturn, 1) := by decide +kernel
theorem dX10_vain_16 : decode cX10_vain 16 = .ok (.iload_n 1, 1) := by decide +kernel
theorem dX10_vain_17 : decode cX10_vain 17 = .ok (.iconst 2, 1) := by decide +kernel
theorem dX10_vain_18 : decode cX10_vain 18 = .ok (.if_icmp .ne 20, 3) := by decide +kernel
theorem dX10_vain_21 : decode cX10_vain 21 = .ok (.aload_n 0, 1) := by decide +kernel
theorem dX10_vain_22 : decode cX10_vain 22 = .ok (.invokevirtual 393, 3) := by decide +kernel
theorem dX10_vain_25 : decode cX10_vain 25 = .ok (.aload_n 0, 1) := by decide +kernel
theorem dX10_vain_26 : decode cX10_vain 26 = .ok (.invokevirtual 422, 3) := by decide +kernel
theorem dX10_vain_29 : decode cX10_vain 29 = .ok (.ifCond .eq 7, 3) := by decide +kernel
theorem dX10_vain_32 : decode cX10_vain 32 = .ok (.iconst 1, 1) := by decide +kernel
theorem dX10_vain_33 : decode cX10_vain 33 = .ok (.goto 4, 3) := by decide +kernel
theorem dX10_vain_36 : decode cX10_vain 36 = .ok (.iconst 0, 1) := by decide +kernel
theorem dX10_vain_37 : decode cX10_vain 37 = .ok (.ireturn, 1) := by decide +kernel
theorem dX10_vain_38 : decode cX10_vain 38 = .ok (.iconst 0, 1) := by decide +kernel
theorem dX10_vain_39 : decode cX10_vain 39 = .ok (.istore_n 2, 1) := by decide +kernel
theorem dX10_vain_40 : decode cX10_vain 40 = .ok (.iconst (-1), 1) := by decide +kernel
theorem dX10_vain_41 : decode cX10_vain 41 = .ok (.istore_n 3, 1) := by decide +kernel
theorem dX10_vain_42 : decode cX10_vain 42 = .ok (.iconst 0, 1) := by decide +kernel
theorem dX10_vain_43 : decode cX10_vain 43 = .ok (.istore 4, 2) := by decide +kernel
theorem dX10_vain_45 : decode cX10_vain 45 = .ok (.iload 4, 2) := by decide +kernel
theorem dX10_vain_47 : decode cX10_vain 47 = .ok (.bipush 10, 2) := by decide +kernel
theorem dX10_vain_49 : decode cX10_vain 49 = .ok (.aload_n 0, 1) := by decide +kernel
theorem dX10_vain_50 : decode cX10_vain 50 = .ok (.getfield 273, 3) := by decide +kernel
theorem dX10_vain_53 : decode cX10_vain 53 = .ok (.imul, 1) := by decide +kernel
theorem dX10_vain_54 : decode cX10_vain 54 = .ok (.if_icmp .ge 32, 3) := by decide +kernel
theorem dX10_vain_57 : decode cX10_vain 57 = .ok (.aload_n 0, 1) := by decide +kernel
theorem dX10_vain_58 : decode cX10_vain 58 = .ok (.iload 4, 2) := by decide +kernel
theorem dX10_vain_60 : decode cX10_vain 60 = .ok (.invokevirtual 425, 3) := by decide +kernel
theorem dX10_vain_63 : decode cX10_vain 63 = .ok (.ifCond .ne 6, 3) := by decide +kernel
theorem dX10_vain_66 : decode cX10_vain 66 = .ok (.goto 14, 3) := by decide +kernel
theorem dX10_vain_69 : decode cX10_vain 69 = .ok (.iinc 2 1, 3) := by decide +kernel
theorem dX10_vain_72 : decode cX10_vain 72 = .ok (.iload_n 3, 1) := by decide +kernel
theorem dX10_vain_73 : decode cX10_vain 73 = .ok (.iconst (-1), 1) := by decide +kernel
theorem dX10_vain_74 : decode cX10_vain 74 = .ok (.if_icmp .ne 6, 3) := by decide +kernel
theorem dX10_vain_77 : decode cX10_vain 77 = .ok (.iload 4, 2) := by decide +kernel
theorem dX10_vain_79 : decode cX10_vain 79 = .ok (.istore_n 3, 1) := by decide +kernel
theorem dX10_vain_80 : decode cX10_vain 80 = .ok (.iinc 4 1, 3) := by decide +kernel
theorem dX10_vain_83 : decode cX10_vain 83 = .ok (.goto (-38), 3) := by decide +kernel
theorem dX10_vain_86 : decode cX10_vain 86 = .ok (.iload_n 1, 1) := by decide +kernel
theorem dX10_vain_87 : decode cX10_vain 87 = .ok (.ifCond .ne 7, 3) := by decide +kernel
theorem dX10_vain_90 : decode cX10_vain 90 = .ok (.iload_n 2, 1) := by decide +kernel
theorem dX10_vain_91 : decode cX10_vain 91 = .ok (.goto 4, 3) := by decide +kernel
theorem dX10_vain_94 : decode cX10_vain 94 = .ok (.iload_n 3, 1) := by decide +kernel
theorem dX10_vain_95 : decode cX10_vain 95 = .ok (.ireturn, 1) := by decide +kernel
theorem dX10_areLike_0 : decode cX10_areLike 0 = .ok (.aload_n 0, 1) := by decide +kernel
theorem dX10_areLike_1 : decode cX10_areLike 1 = .ok (.getfield 90, 3) := by decide +kernel
theorem dX10_areLike_4 : decode cX10_areLike 4 = .ok (.bipush 20, 2) := by decide +kernel
theorem dX10_areLike_6 : decode cX10_areLike 6 = .ok (.iload_n 1, 1) := by decide +kernel
theorem dX10_areLike_7 : decode cX10_areLike 7 = .ok (.imul, 1) := by decide +kernel
theorem dX10_areLike_8 : decode cX10_areLike 8 = .ok (.iload_n 3, 1) := by decide +kernel
theorem dX10_areLike_9 : decode cX10_areLike 9 = .ok (.iadd, 1) := by decide +kernel
theorem dX10_areLike_10 : decode cX10_areLike 10 = .ok (.iaload, 1) := by decide +kernel
theorem dX10_areLike_11 : decode cX10_areLike 11 = .ok (.aload_n 0, 1) := by decide +kernel
theorem dX10_areLike_12 : decode cX10_areLike 12 = .ok (.getfield 90, 3) := by decide +kernel
theorem dX10_areLike_15 : decode cX10_areLike 15 = .ok (.bipush 20, 2) := by decide +kernel
theorem dX10_areLike_17 : decode cX10_areLike 17 = .ok (.iload_n 2, 1) := by decide +kernel
theorem dX10_areLike_18 : decode cX10_areLike 18 = .ok (.imul, 1) := by decide +kernel
theorem dX10_areLike_19 : decode cX10_areLike 19 = .ok (.iload_n 3, 1) := by decide +kernel
theorem dX10_areLike_20 : decode cX10_areLike 20 = .ok (.iadd, 1) := by decide +kernel
theorem dX10_areLike_21 : decode cX10_areLike 21 = .ok (.iaload, 1) := by decide +kernel
theorem dX10_areLike_22 : decode cX10_areLike 22 = .ok (.if_icmp .ne 38, 3) := by decide +kernel
theorem dX10_areLike_25 : decode cX10_areLike 25 = .ok (.aload_n 0, 1) := by decide +kernel
theorem dX10_areLike_26 : decode cX10_areLike 26 = .ok (.getfield 90, 3) := by decide +kernel
theorem dX10_areLike_29 : decode cX10_areLike 29 = .ok (.bipush 20, 2) := by decide +kernel
theorem dX10_areLike_31 : decode cX10_areLike 31 = .ok (.iload_n 1, 1) := by decide +kernel
theorem dX10_areLike_32 : decode cX10_areLike 32 = .ok (.imul, 1) := by decide +kernel
theorem dX10_areLike_33 : decode cX10_areLike 33 = .ok (.bipush 10, 2) := by decide +kernel
theorem dX10_areLike_35 : decode cX10_areLike 35 = .ok (.iadd, 1) := by decide +kernel
theorem dX10_areLike_36 : decode cX10_areLike 36 = .ok (.iload_n 3, 1) := by decide +kernel
theorem dX10_areLike_37 : decode cX10_areLike 37 = .ok (.iadd, 1) := by decide +kernel
theorem dX10_areLike_38 : decode cX10_areLike 38 = .ok (.iaload, 1) := by decide +kernel
theorem dX10_areLike_39 : decode cX10_areLike 39 = .ok (.aload_n 0, 1) := by decide +kernel
theorem dX10_areLike_40 : decode cX10_areLike 40 = .ok (.getfield 90, 3) := by decide +kernel
theorem dX10_areLike_43 : decode cX10_areLike 43 = .ok (.bipush 20, 2) := by decide +kernel
theorem dX10_areLike_45 : decode cX10_areLike 45 = .ok (.iload_n 2, 1) := by decide +kernel
theorem dX10_areLike_46 : decode cX10_areLike 46 = .ok (.imul, 1) := by decide +kernel
theorem dX10_areLike_47 : decode cX10_areLike 47 = .ok (.bipush 10, 2) := by decide +kernel
theorem dX10_areLike_49 : decode cX10_areLike 49 = .ok (.iadd, 1) := by decide +kernel
theorem dX10_areLike_50 : decode cX10_areLike 50 = .ok (.iload_n 3, 1) := by decide +kernel
theorem dX10_areLike_51 : decode cX10_areLike 51 = .ok (.iadd, 1) := by decide +kernel
theorem dX10_areLike_52 : decode cX10_areLike 52 = .ok (.iaload, 1) := by decide +kernel
theorem dX10_areLike_53 : decode cX10_areLike 53 = .ok (.if_icmp .ne 7, 3) := by decide +kernel
theorem dX10_areLike_56 : decode cX10_areLike 56 = .ok (.iconst 1, 1) := by decide +kernel
theorem dX10_areLike_57 : decode cX10_areLike 57 = .ok (.goto 4, 3) := by decide +kernel
theorem dX10_areLike_60 : decode cX10_areLike 60 = .ok (.iconst 0, 1) := by decide +kernel
theorem dX10_areLike_61 : decode cX10_areLike 61 = .ok (.ireturn, 1) := by decide +kernel
theorem dX10_ask_0 : decode cX10_ask 0 = .ok (.aload_n 0, 1) := by decide +kernel
theorem dX10_ask_1 : decode cX10_ask 1 = .ok (.iconst 0, 1) := by decide +kernel
theorem dX10_ask_2 : decode cX10_ask 2 = .ok (.putfield 102, 3) := by decide +kernel
theorem dX10_ask_5 : decode cX10_ask 5 = .ok (.aload_n 0, 1) := by decide +kernel
theorem dX10_ask_6 : decode cX10_ask 6 = .ok (.iload_n 1, 1) := by decide +kernel
theorem dX10_ask_7 : decode cX10_ask 7 = .ok (.iconst 1, 1) := by decide +kernel
theorem dX10_ask_8 : decode cX10_ask 8 = .ok (.invokevirtual 365, 3) := by decide +kernel
theorem dX10_ask_11 : decode cX10_ask 11 = .ok (.ifCond .ne 5, 3) := by decide +kernel
theorem dX10_ask_14 : decode cX10_ask 14 = .ok (.iconst 0, 1) := by decide +kernel
theorem dX10_ask_15 : decode cX10_ask 15 = .ok (.ireturn, 1) := by decide +kernel
theorem dX10_ask_16 : decode cX10_ask 16 = .ok (.iconst 0, 1) := by decide +kernel
theorem dX10_ask_17 : decode cX10_ask 17 = .ok (.istore_n 2, 1) := by decide +kernel
theorem dX10_ask_18 : decode cX10_ask 18 = .ok (.iconst 0, 1) := by decide +kernel
theorem dX10_ask_19 : decode cX10_ask 19 = .ok (.istore_n 3, 1) := by decide +kernel
theorem dX10_ask_20 : decode cX10_ask 20 = .ok (.iload_n 3, 1) := by decide +kernel
theorem dX10_ask_21 : decode cX10_ask 21 = .ok (.bipush 10, 2) := by decide +kernel
theorem dX10_ask_23 : decode cX10_ask 23 = .ok (.aload_n 0, 1) := by decide +kernel
theorem dX10_ask_24 : decode cX10_ask 24 = .ok (.getfield 273, 3) := by decide +kernel
theorem dX10_ask_27 : decode cX10_ask 27 = .ok (.imul, 1) := by decide +kernel
theorem dX10_ask_28 : decode cX10_ask 28 = .ok (.if_icmp .ge 58, 3) := by decide +kernel
theorem dX10_ask_31 : decode cX10_ask 31 = .ok (.aload_n 0, 1) := by decide +kernel
theorem dX10_ask_32 : decode cX10_ask 32 = .ok (.iload_n 3, 1) := by decide +kernel
theorem dX10_ask_33 : decode cX10_ask 33 = .ok (.invokevirtual 425, 3) := by decide +kernel
theorem dX10_ask_36 : decode cX10_ask 36 = .ok (.ifCond .ne 6, 3) := by decide +kernel
theorem dX10_ask_39 : decode cX10_ask 39 = .ok (.goto 41, 3) := by decide +kernel
theorem dX10_ask_42 : decode cX10_ask 42 = .ok (.iconst 0, 1) := by decide +kernel
theorem dX10_ask_43 : decode cX10_ask 43 = .ok (.istore 4, 2) := by decide +kernel
theorem dX10_ask_45 : decode cX10_ask 45 = .ok (.iload 4, 2) := by decide +kernel
theorem dX10_ask_47 : decode cX10_ask 47 = .ok (.bipush 20, 2) := by decide +kernel
theorem dX10_ask_49 : decode cX10_ask 49 = .ok (.if_icmp .ge 28, 3) := by decide +kernel
theorem dX10_ask_52 : decode cX10_ask 52 = .ok (.aload_n 0, 1) := by decide +kernel
theorem dX10_ask_53 : decode cX10_ask 53 = .ok (.getfield 90, 3) := by decide +kernel
theorem dX10_ask_56 : decode cX10_ask 56 = .ok (.bipush 20, 2) := by decide +kernel
theorem dX10_ask_58 : decode cX10_ask 58 = .ok (.iload_n 2, 1) := by decide +kernel
theorem dX10_ask_59 : decode cX10_ask 59 = .ok (.imul, 1) := by decide +kernel
theorem dX10_ask_60 : decode cX10_ask 60 = .ok (.iload 4, 2) := by decide +kernel
theorem dX10_ask_62 : decode cX10_ask 62 = .ok (.iadd, 1) := by decide +kernel
theorem dX10_ask_63 : decode cX10_ask 63 = .ok (.aload_n 0, 1) := by decide +kernel
theorem dX10_ask_64 : decode cX10_ask 64 = .ok (.getfield 87, 3) := by decide +kernel
theorem dX10_ask_67 : decode cX10_ask 67 = .ok (.iload 4, 2) := by decide +kernel
theorem dX10_ask_69 : decode cX10_ask 69 = .ok (.iaload, 1) := by decide +kernel
theorem dX10_ask_70 : decode cX10_ask 70 = .ok (.iastore, 1) := by decide +kernel
theorem dX10_ask_71 : decode cX10_ask 71 = .ok (.iinc 4 1, 3) := by decide +kernel
theorem dX10_ask_74 : decode cX10_ask 74 = .ok (.goto (-29), 3) := by decide +kernel
theorem dX10_ask_77 : decode cX10_ask 77 = .ok (.iinc 2 1, 3) := by decide +kernel
theorem dX10_ask_80 : decode cX10_ask 80 = .ok (.iinc 3 1, 3) := by decide +kernel
theorem dX10_ask_83 : decode cX10_ask 83 = .ok (.goto (-63), 3) := by decide +kernel
theorem dX10_ask_86 : decode cX10_ask 86 = .ok (.iconst (-1), 1) := by decide +kernel
theorem dX10_ask_87 : decode cX10_ask 87 = .ok (.istore_n 3, 1) := by decide +kernel
theorem dX10_ask_88 : decode cX10_ask 88 = .ok (.iconst 0, 1) := by decide +kernel
theorem dX10_ask_89 : decode cX10_ask 89 = .ok (.istore 4, 2) := by decide +kernel
theorem dX10_ask_91 : decode cX10_ask 91 = .ok (.iconst 0, 1) := by decide +kernel
theorem dX10_ask_92 : decode cX10_ask 92 = .ok (.istore 5, 2) := by decide +kernel
theorem dX10_ask_94 : decode cX10_ask 94 = .ok (.iload 5, 2) := by decide +kernel
theorem dX10_ask_96 : decode cX10_ask 96 = .ok (.aload_n 0, 1) := by decide +kernel
theorem dX10_ask_97 : decode cX10_ask 97 = .ok (.getfield 276, 3) := by decide +kernel
theorem dX10_ask_100 : decode cX10_ask 100 = .ok (.if_icmp .ge 103, 3) := by decide +kernel
theorem dX10_ask_103 : decode cX10_ask 103 = .ok (.iconst 0, 1) := by decide +kernel
theorem dX10_ask_104 : decode cX10_ask 104 = .ok (.istore 6, 2) := by decide +kernel
theorem dX10_ask_106 : decode cX10_ask 106 = .ok (.iconst 0, 1) := by decide +kernel
theorem dX10_ask_107 : decode cX10_ask 107 = .ok (.istore 7, 2) := by decide +kernel
theorem dX10_ask_109 : decode cX10_ask 109 = .ok (.iload 7, 2) := by decide +kernel
theorem dX10_ask_111 : decode cX10_ask 111 = .ok (.iload_n 2, 1) := by decide +kernel
theorem dX10_ask_112 : decode cX10_ask 112 = .ok (.if_icmp .ge 68, 3) := by decide +kernel
theorem dX10_ask_115 : decode cX10_ask 115 = .ok (.iconst 1, 1) := by decide +kernel
theorem dX10_ask_116 : decode cX10_ask 116 = .ok (.istore 8, 2) := by decide +kernel
theorem dX10_ask_118 : decode cX10_ask 118 = .ok (.iconst 0, 1) := by decide +kernel
theorem dX10_ask_119 : decode cX10_ask 119 = .ok (.istore 9, 2) := by decide +kernel
theorem dX10_ask_121 : decode cX10_ask 121 = .ok (.iload 9, 2) := by decide +kernel
theorem dX10_ask_123 : decode cX10_ask 123 = .ok (.iload 7, 2) := by decide +kernel
theorem dX10_ask_125 : decode cX10_ask 125 = .ok (.if_icmp .ge 34, 3) := by decide +kernel
theorem dX10_ask_128 : decode cX10_ask 128 = .ok (.iload 8, 2) := by decide +kernel
theorem dX10_ask_130 : decode cX10_ask 130 = .ok (.ifCond .eq 29, 3) := by decide +kernel
theorem dX10_ask_133 : decode cX10_ask 133 = .ok (.aload_n 0, 1) := by decide +kernel
theorem dX10_ask_134 : decode cX10_ask 134 = .ok (.iload 7, 2) := by decide +kernel
theorem dX10_ask_136 : decode cX10_ask 136 = .ok (.iload 9, 2) := by decide +kernel
theorem dX10_ask_138 : decode cX10_ask 138 = .ok (.iload 5, 2) := by decide +kernel
theorem dX10_ask_140 : decode cX10_ask 140 = .ok (.invokevirtual 428, 3) := by decide +kernel
theorem dX10_ask_143 : decode cX10_ask 143 = .ok (.ifCond .ne 7, 3) := by decide +kernel
theorem dX10_ask_146 : decode cX10_ask 146 = .ok (.iconst 1, 1) := by decide +kernel
theorem dX10_ask_147 : decode cX10_ask 147 = .ok (.goto 4, 3) := by decide +kernel
theorem dX10_ask_150 : decode cX10_ask 150 = .ok (.iconst 0, 1) := by decide +kernel
theorem dX10_ask_151 : decode cX10_ask 151 = .ok (.istore 8, 2) := by decide +kernel
theorem dX10_ask_153 : decode cX10_ask 153 = .ok (.iinc 9 1, 3) := by decide +kernel
theorem dX10_ask_156 : decode cX10_ask 156 = .ok (.goto (-35), 3) := by decide +kernel
theorem dX10_ask_159 : decode cX10_ask 159 = .ok (.iload 6, 2) := by decide +kernel
theorem dX10_ask_161 : decode cX10_ask 161 = .ok (.iload 8, 2) := by decide +kernel
theorem dX10_ask_163 : decode cX10_ask 163 = .ok (.ifCond .eq 7, 3) := by decide +kernel
theorem dX10_ask_166 : decode cX10_ask 166 = .ok (.iconst 1, 1) := by decide +kernel
theorem dX10_ask_167 : decode cX10_ask 167 = .ok (.goto 4, 3) := by decide +kernel
theorem dX10_ask_170 : decode cX10_ask 170 = .ok (.iconst 0, 1) := by decide +kernel
theorem dX10_ask_171 : decode cX10_ask 171 = .ok (.iadd, 1) := by decide +kernel
theorem dX10_ask_172 : decode cX10_ask 172 = .ok (.istore 6, 2) := by decide +kernel
theorem dX10_ask_174 : decode cX10_ask 174 = .ok (.iinc 7 1, 3) := by decide +kernel
theorem dX10_ask_177 : decode cX10_ask 177 = .ok (.goto (-68), 3) := by decide +kernel
theorem dX10_ask_180 : decode cX10_ask 180 = .ok (.iload 6, 2) := by decide +kernel
theorem dX10_ask_182 : decode cX10_ask 182 = .ok (.iload 4, 2) := by decide +kernel
theorem dX10_ask_184 : decode cX10_ask 184 = .ok (.if_icmp .gt 6, 3) := by decide +kernel
theorem dX10_ask_187 : decode cX10_ask 187 = .ok (.goto 10, 3) := by decide +kernel
theorem dX10_ask_190 : decode cX10_ask 190 = .ok (.iload 5, 2) := by decide +kernel
theorem dX10_ask_192 : decode cX10_ask 192 = .ok (.istore_n 3, 1) := by decide +kernel
theorem dX10_ask_193 : decode cX10_ask 193 = .ok (.iload 6, 2) := by decide +kernel
theorem dX10_ask_195 : decode cX10_ask 195 = .ok (.istore 4, 2) := by decide +kernel
theorem dX10_ask_197 : decode cX10_ask 197 = .ok (.iinc 5 1, 3) := by decide +kernel
theorem dX10_ask_200 : decode cX10_ask 200 = .ok (.goto (-106), 3) := by decide +kernel
theorem dX10_ask_203 : decode cX10_ask 203 = .ok (.iload_n 1, 1) := by decide +kernel
theorem dX10_ask_204 : decode cX10_ask 204 = .ok (.ifCond .ne 7, 3) := by decide +kernel
theorem dX10_ask_207 : decode cX10_ask 207 = .ok (.iload_n 3, 1) := by decide +kernel
theorem dX10_ask_208 : decode cX10_ask 208 = .ok (.goto 5, 3) := by decide +kernel
theorem dX10_ask_211 : decode cX10_ask 211 = .ok (.iload 4, 2) := by decide +kernel
theorem dX10_ask_213 : decode cX10_ask 213 = .ok (.ireturn, 1) := by decide +kernel
theorem dX10_fog_0 : decode cX10_fog 0 = .ok (.aload_n 0, 1) := by decide +kernel
theorem dX10_fog_1 : decode cX10_fog 1 = .ok (.iconst 0, 1) := by decide +kernel
theorem dX10_fog_2 : decode cX10_fog 2 = .ok (.putfield 102, 3) := by decide +kernel
theorem dX10_fog_5 : decode cX10_fog 5 = .ok (.aload_n 0, 1) := by decide +kernel
theorem dX10_fog_6 : decode cX10_fog 6 = .ok (.iload_n 1, 1) := by decide +kernel
theorem dX10_fog_7 : decode cX10_fog 7 = .ok (.invokevirtual 377, 3) := by decide +kernel
theorem dX10_fog_10 : decode cX10_fog 10 = .ok (.ifCond .eq 35, 3) := by decide +kernel
theorem dX10_fog_13 : decode cX10_fog 13 = .ok (.aload_n 0, 1) := by decide +kernel
theorem dX10_fog_14 : decode cX10_fog 14 = .ok (.iload_n 2, 1) := by decide +kernel
theorem dX10_fog_15 : decode cX10_fog 15 = .ok (.iconst 1, 1) := by decide +kernel
theorem dX10_fog_16 : decode cX10_fog 16 = .ok (.iconst 5, 1) := by decide +kernel
theorem dX10_fog_17 : decode cX10_fog 17 = .ok (.invokestatic 349, 3) := by decide +kernel
theorem dX10_fog_20 : decode cX10_fog 20 = .ok (.ifCond .eq 17, 3) := by decide +kernel
theorem dX10_fog_23 : decode cX10_fog 23 = .ok (.iload_n 3, 1) := by decide +kernel
theorem dX10_fog_24 : decode cX10_fog 24 = .ok (.iconst 0, 1) := by decide +kernel
theorem dX10_fog_25 : decode cX10_fog 25 = .ok (.bipush 10, 2) := by decide +kernel
theorem dX10_fog_27 : decode cX10_fog 27 = .ok (.invokestatic 349, 3) := by decide +kernel
theorem dX10_fog_30 : decode cX10_fog 30 = .ok (.ifCond .eq 7, 3) := by decide +kernel
theorem dX10_fog_33 : decode cX10_fog 33 = .ok (.iconst 1, 1) := by decide +kernel
theorem dX10_fog_34 : decode cX10_fog 34 = .ok (.goto 4, 3) := by decide +kernel
theorem dX10_fog_37 : decode cX10_fog 37 = .ok (.iconst 0, 1) := by decide +kernel
theorem dX10_fog_38 : decode cX10_fog 38 = .ok (.iconst 2, 1) := by decide +kernel
theorem dX10_fog_39 : decode cX10_fog 39 = .ok (.invokevirtual 266, 3) := by decide +kernel
theorem dX10_fog_42 : decode cX10_fog 42 = .ok (.ifCond .ne 5, 3) := by decide +kernel
theorem dX10_fog_45 : decode cX10_fog 45 = .ok (.iconst 0, 1) := by decide +kernel
theorem dX10_fog_46 : decode cX10_fog 46 = .ok (.ireturn, 1) := by decide +kernel
theorem dX10_fog_47 : decode cX10_fog 47 = .ok (.iconst 0, 1) := by decide +kernel
theorem dX10_fog_48 : decode cX10_fog 48 = .ok (.istore 4, 2) := by decide +kernel
theorem dX10_fog_50 : decode cX10_fog 50 = .ok (.iconst 0, 1) := by decide +kernel
theorem dX10_fog_51 : decode cX10_fog 51 = .ok (.istore 5, 2) := by decide +kernel
theorem dX10_fog_53 : decode cX10_fog 53 = .ok (.iload 5, 2) := by decide +kernel
theorem dX10_fog_55 : decode cX10_fog 55 = .ok (.iconst 1, 1) := by decide +kernel
theorem dX10_fog_56 : decode cX10_fog 56 = .ok (.iload_n 2, 1) := by decide +kernel
theorem dX10_fog_57 : decode cX10_fog 57 = .ok (.ishl, 1) := by decide +kernel
theorem dX10_fog_58 : decode cX10_fog 58 = .ok (.if_icmp .ge 108, 3) := by decide +kernel
theorem dX10_fog_61 : decode cX10_fog 61 = .ok (.iconst 1, 1) := by decide +kernel
theorem dX10_fog_62 : decode cX10_fog 62 = .ok (.istore 6, 2) := by decide +kernel
theorem dX10_fog_64 : decode cX10_fog 64 = .ok (.aload_n 0, 1) := by decide +kernel
theorem dX10_fog_65 : decode cX10_fog 65 = .ok (.invokevirtual 393, 3) := by decide +kernel
theorem dX10_fog_68 : decode cX10_fog 68 = .ok (.iconst 0, 1) := by decide +kernel
theorem dX10_fog_69 : decode cX10_fog 69 = .ok (.istore 7, 2) := by decide +kernel
theorem dX10_fog_71 : decode cX10_fog 71 = .ok (.iload 7, 2) := by decide +kernel
theorem dX10_fog_73 : decode cX10_fog 73 = .ok (.iload_n 2, 1) := by decide +kernel
theorem dX10_fog_74 : decode cX10_fog 74 = .ok (.if_icmp .ge 55, 3) := by decide +kernel
theorem dX10_fog_77 : decode cX10_fog 77 = .ok (.aload_n 0, 1) := by decide +kernel
theorem dX10_fog_78 : decode cX10_fog 78 = .ok (.iload 5, 2) := by decide +kernel
theorem dX10_fog_80 : decode cX10_fog 80 = .ok (.iload 7, 2) := by decide +kernel
theorem dX10_fog_82 : decode cX10_fog 82 = .ok (.ishr, 1) := by decide +kernel
theorem dX10_fog_83 : decode cX10_fog 83 = .ok (.iconst 1, 1) := by decide +kernel
theorem dX10_fog_84 : decode cX10_fog 84 = .ok (.iand, 1) := by decide +kernel
theorem dX10_fog_85 : decode cX10_fog 85 = .ok (.iconst 1, 1) := by decide +kernel
theorem dX10_fog_86 : decode cX10_fog 86 = .ok (.if_icmp .ne 7, 3) := by decide +kernel
theorem dX10_fog_89 : decode cX10_fog 89 = .ok (.iconst 1, 1) := by decide +kernel
theorem dX10_fog_90 : decode cX10_fog 90 = .ok (.goto 4, 3) := by decide +kernel
theorem dX10_fog_93 : decode cX10_fog 93 = .ok (.iconst 0, 1) := by decide +kernel
theorem dX10_fog_94 : decode cX10_fog 94 = .ok (.putfield 303, 3) := by decide +kernel
theorem dX10_fog_97 : decode cX10_fog 97 = .ok (.iload 6, 2) := by decide +kernel
theorem dX10_fog_99 : decode cX10_fog 99 = .ok (.aload_n 0, 1) := by decide +kernel
theorem dX10_fog_100 : decode cX10_fog 100 = .ok (.getfield 303, 3) := by decide +kernel
theorem dX10_fog_103 : decode cX10_fog 103 = .ok (.ifCond .eq 7, 3) := by decide +kernel
theorem dX10_fog_106 : decode cX10_fog 106 = .ok (.iload_n 3, 1) := by decide +kernel
theorem dX10_fog_107 : decode cX10_fog 107 = .ok (.goto 7, 3) := by decide +kernel
theorem dX10_fog_110 : decode cX10_fog 110 = .ok (.bipush 10, 2) := by decide +kernel
theorem dX10_fog_112 : decode cX10_fog 112 = .ok (.iload_n 3, 1) := by decide +kernel
theorem dX10_fog_113 : decode cX10_fog 113 = .ok (.isub, 1) := by decide +kernel
theorem dX10_fog_114 : decode cX10_fog 114 = .ok (.imul, 1) := by decide +kernel
theorem dX10_fog_115 : decode cX10_fog 115 = .ok (.istore 6, 2) := by decide +kernel
theorem dX10_fog_117 : decode cX10_fog 117 = .ok (.aload_n 0, 1) := by decide +kernel
theorem dX10_fog_118 : decode cX10_fog 118 = .ok (.bipush 105, 2) := by decide +kernel
theorem dX10_fog_120 : decode cX10_fog 120 = .ok (.invokevirtual 343, 3) := by decide +kernel
theorem dX10_fog_123 : decode cX10_fog 123 = .ok (.iinc 7 1, 3) := by decide +kernel
theorem dX10_fog_126 : decode cX10_fog 126 = .ok (.goto (-55), 3) := by decide +kernel
theorem dX10_fog_129 : decode cX10_fog 129 = .ok (.iload 4, 2) := by decide +kernel
theorem dX10_fog_131 : decode cX10_fog 131 = .ok (.aload_n 0, 1) := by decide +kernel
theorem dX10_fog_132 : decode cX10_fog 132 = .ok (.getfield 66, 3) := by decide +kernel
theorem dX10_fog_135 : decode cX10_fog 135 = .ok (.bipush 106, 2) := by decide +kernel
theorem dX10_fog_137 : decode cX10_fog 137 = .ok (.iload_n 1, 1) := by decide +kernel
theorem dX10_fog_138 : decode cX10_fog 138 = .ok (.iadd, 1) := by decide +kernel
theorem dX10_fog_139 : decode cX10_fog 139 = .ok (.iaload, 1) := by decide +kernel
theorem dX10_fog_140 : decode cX10_fog 140 = .ok (.aload_n 0, 1) := by decide +kernel
theorem dX10_fog_141 : decode cX10_fog 141 = .ok (.getfield 66, 3) := by decide +kernel
theorem dX10_fog_144 : decode cX10_fog 144 = .ok (.iconst 1, 1) := by decide +kernel
theorem dX10_fog_145 : decode cX10_fog 145 = .ok (.iload_n 1, 1) := by decide +kernel
theorem dX10_fog_146 : decode cX10_fog 146 = .ok (.iadd, 1) := by decide +kernel
theorem dX10_fog_147 : decode cX10_fog 147 = .ok (.iaload, 1) := by decide +kernel
theorem dX10_fog_148 : decode cX10_fog 148 = .ok (.if_icmp .eq 8, 3) := by decide +kernel
theorem dX10_fog_151 : decode cX10_fog 151 = .ok (.iload 6, 2) := by decide +kernel
theorem dX10_fog_153 : decode cX10_fog 153 = .ok (.goto 4, 3) := by decide +kernel
theorem dX10_fog_156 : decode cX10_fog 156 = .ok (.iconst 0, 1) := by decide +kernel
theorem dX10_fog_157 : decode cX10_fog 157 = .ok (.iadd, 1) := by decide +kernel
theorem dX10_fog_158 : decode cX10_fog 158 = .ok (.istore 4, 2) := by decide +kernel
theorem dX10_fog_160 : decode cX10_fog 160 = .ok (.iinc 5 1, 3) := by decide +kernel
theorem dX10_fog_163 : decode cX10_fog 163 = .ok (.goto (-110), 3) := by decide +kernel
theorem dX10_fog_166 : decode cX10_fog 166 = .ok (.aload_n 0, 1) := by decide +kernel
theorem dX10_fog_167 : decode cX10_fog 167 = .ok (.iconst 0, 1) := by decide +kernel
theorem dX10_fog_168 : decode cX10_fog 168 = .ok (.putfield 303, 3) := by decide +kernel
theorem dX10_fog_171 : decode cX10_fog 171 = .ok (.iload 4, 2) := by decide +kernel
theorem dX10_fog_173 : decode cX10_fog 173 = .ok (.ireturn, 1) := by decide +kernel
theorem dX10_gains_0 : decode cX10_gains 0 = .ok (.aload_n 0, 1) := by decide +kernel
theorem dX10_gains_1 : decode cX10_gains 1 = .ok (.invokevirtual 393, 3) := by decide +kernel
theorem dX10_gains_4 : decode cX10_gains 4 = .ok (.iload_n 3, 1) := by decide +kernel
theorem dX10_gains_5 : decode cX10_gains 5 = .ok (.iconst 1, 1) := by decide +kernel
theorem dX10_gains_6 : decode cX10_gains 6 = .ok (.if_icmp .ne 10, 3) := by decide +kernel
theorem dX10_gains_9 : decode cX10_gains 9 = .ok (.aload_n 0, 1) := by decide +kernel
theorem dX10_gains_10 : decode cX10_gains 10 = .ok (.bipush 105, 2) := by decide +kernel
theorem dX10_gains_12 : decode cX10_gains 12 = .ok (.iload_n 1, 1) := by decide +kernel
theorem dX10_gains_13 : decode cX10_gains 13 = .ok (.invokevirtual 340, 3) := by decide +kernel
theorem dX10_gains_16 : decode cX10_gains 16 = .ok (.iload 4, 2) := by decide +kernel
theorem dX10_gains_18 : decode cX10_gains 18 = .ok (.iconst 1, 1) := by decide +kernel
theorem dX10_gains_19 : decode cX10_gains 19 = .ok (.if_icmp .ne 10, 3) := by decide +kernel
theorem dX10_gains_22 : decode cX10_gains 22 = .ok (.aload_n 0, 1) := by decide +kernel
theorem dX10_gains_23 : decode cX10_gains 23 = .ok (.bipush 105, 2) := by decide +kernel
theorem dX10_gains_25 : decode cX10_gains 25 = .ok (.iload_n 2, 1) := by decide +kernel
theorem dX10_gains_26 : decode cX10_gains 26 = .ok (.invokevirtual 340, 3) := by decide +kernel
theorem dX10_gains_29 : decode cX10_gains 29 = .ok (.aload_n 0, 1) := by decide +kernel
theorem dX10_gains_30 : decode cX10_gains 30 = .ok (.bipush 12, 2) := by decide +kernel
theorem dX10_gains_32 : decode cX10_gains 32 = .ok (.invokevirtual 396, 3) := by decide +kernel
theorem dX10_gains_35 : decode cX10_gains 35 = .ok (.iconst 4, 1) := by decide +kernel
theorem dX10_gains_36 : decode cX10_gains 36 = .ok (.aload_n 0, 1) := by decide +kernel
theorem dX10_gains_37 : decode cX10_gains 37 = .ok (.bipush 105, 2) := by decide +kernel
theorem dX10_gains_39 : decode cX10_gains 39 = .ok (.iload_n 1, 1) := by decide +kernel
theorem dX10_gains_40 : decode cX10_gains 40 = .ok (.invokevirtual 371, 3) := by decide +kernel
theorem dX10_gains_43 : decode cX10_gains 43 = .ok (.invokestatic 312, 3) := by decide +kernel
theorem dX10_gains_46 : decode cX10_gains 46 = .ok (.imul, 1) := by decide +kernel
theorem dX10_gains_47 : decode cX10_gains 47 = .ok (.aload_n 0, 1) := by decide +kernel
theorem dX10_gains_48 : decode cX10_gains 48 = .ok (.getfield 66, 3) := by decide +kernel
theorem dX10_gains_51 : decode cX10_gains 51 = .ok (.sipush 146, 3) := by decide +kernel
theorem dX10_gains_54 : decode cX10_gains 54 = .ok (.iload_n 1, 1) := by decide +kernel
theorem dX10_gains_55 : decode cX10_gains 55 = .ok (.iadd, 1) := by decide +kernel
theorem dX10_gains_56 : decode cX10_gains 56 = .ok (.iaload, 1) := by decide +kernel
theorem dX10_gains_57 : decode cX10_gains 57 = .ok (.bipush 8, 2) := by decide +kernel
theorem dX10_gains_59 : decode cX10_gains 59 = .ok (.idiv, 1) := by decide +kernel
theorem dX10_gains_60 : decode cX10_gains 60 = .ok (.isub, 1) := by decide +kernel
theorem dX10_gains_61 : decode cX10_gains 61 = .ok (.ireturn, 1) := by decide +kernel
theorem dX10_game_0 : decode cX10_game 0 = .ok (.aload_n 0, 1) := by decide +kernel
theorem dX10_game_1 : decode cX10_game 1 = .ok (.iconst 0, 1) := by decide +kernel
theorem dX10_game_2 : decode cX10_game 2 = .ok (.putfield 102, 3) := by decide +kernel
theorem dX10_game_5 : decode cX10_game 5 = .ok (.aload_n 0, 1) := by decide +kernel
theorem dX10_game_6 : decode cX10_game 6 = .ok (.iload_n 1, 1) := by decide +kernel
theorem dX10_game_7 : decode cX10_game 7 = .ok (.invokevirtual 362, 3) := by decide +kernel
theorem dX10_game_10 : decode cX10_game 10 = .ok (.ifCond .eq 38, 3) := by decide +kernel
theorem dX10_game_13 : decode cX10_game 13 = .ok (.aload_n 0, 1) := by decide +kernel
theorem dX10_game_14 : decode cX10_game 14 = .ok (.iload_n 2, 1) := by decide +kernel
theorem dX10_game_15 : decode cX10_game 15 = .ok (.invokevirtual 362, 3) := by decide +kernel
theorem dX10_game_18 : decode cX10_game 18 = .ok (.ifCond .eq 30, 3) := by decide +kernel
theorem dX10_game_21 : decode cX10_game 21 = .ok (.aload_n 0, 1) := by decide +kernel
theorem dX10_game_22 : decode cX10_game 22 = .ok (.iload_n 3, 1) := by decide +kernel
theorem dX10_game_23 : decode cX10_game 23 = .ok (.iconst 1, 1) := by decide +kernel
theorem dX10_game_24 : decode cX10_game 24 = .ok (.invokevirtual 365, 3) := by decide +kernel
theorem dX10_game_27 : decode cX10_game 27 = .ok (.ifCond .eq 21, 3) := by decide +kernel
theorem dX10_game_30 : decode cX10_game 30 = .ok (.aload_n 0, 1) := by decide +kernel
theorem dX10_game_31 : decode cX10_game 31 = .ok (.iload_n 1, 1) := by decide +kernel
theorem dX10_game_32 : decode cX10_game 32 = .ok (.iload_n 2, 1) := by decide +kernel
theorem dX10_game_33 : decode cX10_game 33 = .ok (.if_icmp .eq 7, 3) := by decide +kernel
theorem dX10_game_36 : decode cX10_game 36 = .ok (.iconst 1, 1) := by decide +kernel
theorem dX10_game_37 : decode cX10_game 37 = .ok (.goto 4, 3) := by decide +kernel
theorem dX10_game_40 : decode cX10_game 40 = .ok (.iconst 0, 1) := by decide +kernel
theorem dX10_game_41 : decode cX10_game 41 = .ok (.iconst 2, 1) := by decide +kernel
theorem dX10_game_42 : decode cX10_game 42 = .ok (.invokevirtual 266, 3) := by decide +kernel
theorem dX10_game_45 : decode cX10_game 45 = .ok (.ifCond .ne 5, 3) := by decide +kernel
theorem dX10_game_48 : decode cX10_game 48 = .ok (.iconst 0, 1) := by decide +kernel
theorem dX10_game_49 : decode cX10_game 49 = .ok (.ireturn, 1) := by decide +kernel
theorem dX10_game_50 : decode cX10_game 50 = .ok (.aload_n 0, 1) := by decide +kernel
theorem dX10_game_51 : decode cX10_game 51 = .ok (.iconst 0, 1) := by decide +kernel
theorem dX10_game_52 : decode cX10_game 52 = .ok (.iload_n 1, 1) := by decide +kernel
theorem dX10_game_53 : decode cX10_game 53 = .ok (.invokevirtual 300, 3) := by decide +kernel
theorem dX10_game_56 : decode cX10_game 56 = .ok (.ifCond .eq 12, 3) := by decide +kernel
theorem dX10_game_59 : decode cX10_game 59 = .ok (.aload_n 0, 1) := by decide +kernel
theorem dX10_game_60 : decode cX10_game 60 = .ok (.iconst 0, 1) := by decide +kernel
theorem dX10_game_61 : decode cX10_game 61 = .ok (.iload_n 2, 1) := by decide +kernel
theorem dX10_game_62 : decode cX10_game 62 = .ok (.invokevirtual 300, 3) := by decide +kernel
theorem dX10_game_65 : decode cX10_game 65 = .ok (.ifCond .ne 5, 3) := by decide +kernel
theorem dX10_game_68 : decode cX10_game 68 = .ok (.iconst (-1), 1) := by decide +kernel
theorem dX10_game_69 : decode cX10_game 69 = .ok (.ireturn, 1) := by decide +kernel
theorem dX10_game_70 : decode cX10_game 70 = .ok (.iconst 0, 1) := by decide +kernel
theorem dX10_game_71 : decode cX10_game 71 = .ok (.istore 4, 2) := by decide +kernel
theorem dX10_game_73 : decode cX10_game 73 = .ok (.iconst (-1), 1) := by decide +kernel
theorem dX10_game_74 : decode cX10_game 74 = .ok (.istore 5, 2) := by decide +kernel
theorem dX10_game_76 : decode cX10_game 76 = .ok (.iconst 0, 1) := by decide +kernel
theorem dX10_game_77 : decode cX10_game 77 = .ok (.istore 6, 2) := by decide +kernel
theorem dX10_game_79 : decode cX10_game 79 = .ok (.iload 6, 2) := by decide +kernel
theorem dX10_game_81 : decode cX10_game 81 = .ok (.iconst 4, 1) := by decide +kernel
theorem dX10_game_82 : decode cX10_game 82 = .ok (.if_icmp .ge 93, 3) := by decide +kernel
theorem dX10_game_85 : decode cX10_game 85 = .ok (.iload 6, 2) := by decide +kernel
theorem dX10_game_87 : decode cX10_game 87 = .ok (.iconst 2, 1) := by decide +kernel
theorem dX10_game_88 : decode cX10_game 88 = .ok (.idiv, 1) := by decide +kernel
theorem dX10_game_89 : decode cX10_game 89 = .ok (.istore 7, 2) := by decide +kernel
theorem dX10_game_91 : decode cX10_game 91 = .ok (.iload 6, 2) := by decide +kernel
theorem dX10_game_93 : decode cX10_game 93 = .ok (.iconst 2, 1) := by decide +kernel
theorem dX10_game_94 : decode cX10_game 94 = .ok (.irem, 1) := by decide +kernel
theorem dX10_game_95 : decode cX10_game 95 = .ok (.istore 8, 2) := by decide +kernel
theorem dX10_game_97 : decode cX10_game 97 = .ok (.aload_n 0, 1) := by decide +kernel
theorem dX10_game_98 : decode cX10_game 98 = .ok (.iload_n 1, 1) := by decide +kernel
theorem dX10_game_99 : decode cX10_game 99 = .ok (.iload_n 2, 1) := by decide +kernel
theorem dX10_game_100 : decode cX10_game 100 = .ok (.iconst 1, 1) := by decide +kernel
theorem dX10_game_101 : decode cX10_game 101 = .ok (.iload 7, 2) := by decide +kernel
theorem dX10_game_103 : decode cX10_game 103 = .ok (.isub, 1) := by decide +kernel
theorem dX10_game_104 : decode cX10_game 104 = .ok (.iload 8, 2) := by decide +kernel
theorem dX10_game_106 : decode cX10_game 106 = .ok (.invokevirtual 431, 3) := by decide +kernel
theorem dX10_game_109 : decode cX10_game 109 = .ok (.aload_n 0, 1) := by decide +kernel
theorem dX10_game_110 : decode cX10_game 110 = .ok (.iload_n 1, 1) := by decide +kernel
theorem dX10_game_111 : decode cX10_game 111 = .ok (.iload_n 2, 1) := by decide +kernel
theorem dX10_game_112 : decode cX10_game 112 = .ok (.iload 7, 2) := by decide +kernel
theorem dX10_game_114 : decode cX10_game 114 = .ok (.iload 8, 2) := by decide +kernel
theorem dX10_game_116 : decode cX10_game 116 = .ok (.invokevirtual 431, 3) := by decide +kernel
theorem dX10_game_119 : decode cX10_game 119 = .ok (.if_icmp .gt 50, 3) := by decide +kernel
theorem dX10_game_122 : decode cX10_game 122 = .ok (.aload_n 0, 1) := by decide +kernel
theorem dX10_game_123 : decode cX10_game 123 = .ok (.iload_n 2, 1) := by decide +kernel
theorem dX10_game_124 : decode cX10_game 124 = .ok (.iload_n 1, 1) := by decide +kernel
theorem dX10_game_125 : decode cX10_game 125 = .ok (.iconst 1, 1) := by decide +kernel
theorem dX10_game_126 : decode cX10_game 126 = .ok (.iload 8, 2) := by decide +kernel
theorem dX10_game_128 : decode cX10_game 128 = .ok (.isub, 1) := by decide +kernel
theorem dX10_game_129 : decode cX10_game 129 = .ok (.iload 7, 2) := by decide +kernel
theorem dX10_game_131 : decode cX10_game 131 = .ok (.invokevirtual 431, 3) := by decide +kernel
theorem dX10_game_134 : decode cX10_game 134 = .ok (.aload_n 0, 1) := by decide +kernel
theorem dX10_game_135 : decode cX10_game 135 = .ok (.iload_n 2, 1) := by decide +kernel
theorem dX10_game_136 : decode cX10_game 136 = .ok (.iload_n 1, 1) := by decide +kernel
theorem dX10_game_137 : decode cX10_game 137 = .ok (.iload 8, 2) := by decide +kernel
theorem dX10_game_139 : decode cX10_game 139 = .ok (.iload 7, 2) := by decide +kernel
theorem dX10_game_141 : decode cX10_game 141 = .ok (.invokevirtual 431, 3) := by decide +kernel
theorem dX10_game_144 : decode cX10_game 144 = .ok (.if_icmp .le 6, 3) := by decide +kernel
theorem dX10_game_147 : decode cX10_game 147 = .ok (.goto 22, 3) := by decide +kernel
theorem dX10_game_150 : decode cX10_game 150 = .ok (.iinc 4 1, 3) := by decide +kernel
theorem dX10_game_153 : decode cX10_game 153 = .ok (.iload 5, 2) := by decide +kernel
theorem dX10_game_155 : decode cX10_game 155 = .ok (.iconst (-1), 1) := by decide +kernel
theorem dX10_game_156 : decode cX10_game 156 = .ok (.if_icmp .ne 13, 3) := by decide +kernel
theorem dX10_game_159 : decode cX10_game 159 = .ok (.bipush 10, 2) := by decide +kernel
theorem dX10_game_161 : decode cX10_game 161 = .ok (.iload 7, 2) := by decide +kernel
theorem dX10_game_163 : decode cX10_game 163 = .ok (.imul, 1) := by decide +kernel
theorem dX10_game_164 : decode cX10_game 164 = .ok (.iload 8, 2) := by decide +kernel
theorem dX10_game_166 : decode cX10_game 166 = .ok (.iadd, 1) := by decide +kernel
theorem dX10_game_167 : decode cX10_game 167 = .ok (.istore 5, 2) := by decide +kernel
theorem dX10_game_169 : decode cX10_game 169 = .ok (.iinc 6 1, 3) := by decide +kernel
theorem dX10_game_172 : decode cX10_game 172 = .ok (.goto (-93), 3) := by decide +kernel
theorem dX10_game_175 : decode cX10_game 175 = .ok (.iload_n 3, 1) := by decide +kernel
theorem dX10_game_176 : decode cX10_game 176 = .ok (.ifCond .ne 8, 3) := by decide +kernel
theorem dX10_game_179 : decode cX10_game 179 = .ok (.iload 4, 2) := by decide +kernel
theorem dX10_game_181 : decode cX10_game 181 = .ok (.goto 5, 3) := by decide +kernel
theorem dX10_game_184 : decode cX10_game 184 = .ok (.iload 5, 2) := by decide +kernel
theorem dX10_game_186 : decode cX10_game 186 = .ok (.ireturn, 1) := by decide +kernel
theorem dX10_draw_0 : decode cX10_draw 0 = .ok (.aload_n 0, 1) := by decide +kernel
theorem dX10_draw_1 : decode cX10_draw 1 = .ok (.aload_n 0, 1) := by decide +kernel
theorem dX10_draw_2 : decode cX10_draw 2 = .ok (.getfield 435, 3) := by decide +kernel
theorem dX10_draw_5 : decode cX10_draw 5 = .ok (.ldc_w 438, 3) := by decide +kernel
theorem dX10_draw_8 : decode cX10_draw 8 = .ok (.imul, 1) := by decide +kernel
theorem dX10_draw_9 : decode cX10_draw 9 = .ok (.sipush 12345, 3) := by decide +kernel
theorem dX10_draw_12 : decode cX10_draw 12 = .ok (.iadd, 1) := by decide +kernel
theorem dX10_draw_13 : decode cX10_draw 13 = .ok (.putfield 435, 3) := by decide +kernel
theorem dX10_draw_16 : decode cX10_draw 16 = .ok (.aload_n 0, 1) := by decide +kernel
theorem dX10_draw_17 : decode cX10_draw 17 = .ok (.getfield 435, 3) := by decide +kernel
theorem dX10_draw_20 : decode cX10_draw 20 = .ok (.bipush 16, 2) := by decide +kernel
theorem dX10_draw_22 : decode cX10_draw 22 = .ok (.ishr, 1) := by decide +kernel
theorem dX10_draw_23 : decode cX10_draw 23 = .ok (.sipush 32767, 3) := by decide +kernel
theorem dX10_draw_26 : decode cX10_draw 26 = .ok (.iand, 1) := by decide +kernel
theorem dX10_draw_27 : decode cX10_draw 27 = .ok (.iload_n 1, 1) := by decide +kernel
theorem dX10_draw_28 : decode cX10_draw 28 = .ok (.irem, 1) := by decide +kernel
theorem dX10_draw_29 : decode cX10_draw 29 = .ok (.ireturn, 1) := by decide +kernel
theorem dX10_happens_0 : decode cX10_happens 0 = .ok (.aload_n 0, 1) := by decide +kernel
theorem dX10_happens_1 : decode cX10_happens 1 = .ok (.iconst 5, 1) := by decide +kernel
theorem dX10_happens_2 : decode cX10_happens 2 = .ok (.invokevirtual 439, 3) := by decide +kernel
theorem dX10_happens_5 : decode cX10_happens 5 = .ok (.istore_n 1, 1) := by decide +kernel
theorem dX10_happens_6 : decode cX10_happens 6 = .ok (.iload_n 1, 1) := by decide +kernel
theorem dX10_happens_7 : decode cX10_happens 7 = .ok (.iconst 2, 1) := by decide +kernel
theorem dX10_happens_8 : decode cX10_happens 8 = .ok (.if_icmp .gt 17, 3) := by decide +kernel
theorem dX10_happens_11 : decode cX10_happens 11 = .ok (.aload_n 0, 1) := by decide +kernel
theorem dX10_happens_12 : decode cX10_happens 12 = .ok (.getfield 273, 3) := by decide +kernel
theorem dX10_happens_15 : decode cX10_happens 15 = .ok (.ifCond .eq 10, 3) := by decide +kernel
theorem dX10_happens_18 : decode cX10_happens 18 = .ok (.aload_n 0, 1) := by decide +kernel
theorem dX10_happens_19 : decode cX10_happens 19 = .ok (.getfield 276, 3) := by decide +kernel
theorem dX10_happens_22 : decode cX10_happens 22 = .ok (.ifCond .ne 4, 3) := by decide +kernel
theorem dX10_happens_25 : decode cX10_happens 25 = .ok (.return_, 1) := by decide +kernel
theorem dX10_happens_26 : decode cX10_happens 26 = .ok (.iload_n 1, 1) := by decide +kernel
theorem dX10_happens_27 : decode cX10_happens 27 = .ok (.ifCond .ne 43, 3) := by decide +kernel
theorem dX10_happens_30 : decode cX10_happens 30 = .ok (.aload_n 0, 1) := by decide +kernel
theorem dX10_happens_31 : decode cX10_happens 31 = .ok (.aload_n 0, 1) := by decide +kernel
theorem dX10_happens_32 : decode cX10_happens 32 = .ok (.getfield 273, 3) := by decide +kernel
theorem dX10_happens_35 : decode cX10_happens 35 = .ok (.invokevirtual 439, 3) := by decide +kernel
theorem dX10_happens_38 : decode cX10_happens 38 = .ok (.istore_n 2, 1) := by decide +kernel
theorem dX10_happens_39 : decode cX10_happens 39 = .ok (.aload_n 0, 1) := by decide +kernel
theorem dX10_happens_40 : decode cX10_happens 40 = .ok (.aload_n 0, 1) := by decide +kernel
theorem dX10_happens_41 : decode cX10_happens 41 = .ok (.getfield 276, 3) := by decide +kernel
theorem dX10_happens_44 : decode cX10_happens 44 = .ok (.invokevirtual 439, 3) := by decide +kernel
theorem dX10_happens_47 : decode cX10_happens 47 = .ok (.istore_n 3, 1) := by decide +kernel
theorem dX10_happens_48 : decode cX10_happens 48 = .ok (.aload_n 0, 1) := by decide +kernel
theorem dX10_happens_49 : decode cX10_happens 49 = .ok (.bipush 105, 2) := by decide +kernel
theorem dX10_happens_51 : decode cX10_happens 51 = .ok (.iload_n 2, 1) := by decide +kernel
theorem dX10_happens_52 : decode cX10_happens 52 = .ok (.iload_n 3, 1) := by decide +kernel
theorem dX10_happens_53 : decode cX10_happens 53 = .ok (.invokevirtual 386, 3) := by decide +kernel
theorem dX10_happens_56 : decode cX10_happens 56 = .ok (.ifCond .eq 11, 3) := by decide +kernel
theorem dX10_happens_59 : decode cX10_happens 59 = .ok (.aload_n 0, 1) := by decide +kernel
theorem dX10_happens_60 : decode cX10_happens 60 = .ok (.bipush 105, 2) := by decide +kernel
theorem dX10_happens_62 : decode cX10_happens 62 = .ok (.iload_n 2, 1) := by decide +kernel
theorem dX10_happens_63 : decode cX10_happens 63 = .ok (.iload_n 3, 1) := by decide +kernel
theorem dX10_happens_64 : decode cX10_happens 64 = .ok (.invokevirtual 389, 3) := by decide +kernel
theorem dX10_happens_67 : decode cX10_happens 67 = .ok (.goto 54, 3) := by decide +kernel
theorem dX10_happens_70 : decode cX10_happens 70 = .ok (.iload_n 1, 1) := by decide +kernel
theorem dX10_happens_71 : decode cX10_happens 71 = .ok (.iconst 1, 1) := by decide +kernel
theorem dX10_happens_72 : decode cX10_happens 72 = .ok (.if_icmp .ne 31, 3) := by decide +kernel
theorem dX10_happens_75 : decode cX10_happens 75 = .ok (.aload_n 0, 1) := by decide +kernel
theorem dX10_happens_76 : decode cX10_happens 76 = .ok (.aload_n 0, 1) := by decide +kernel
theorem dX10_happens_77 : decode cX10_happens 77 = .ok (.getfield 276, 3) := by decide +kernel
theorem dX10_happens_80 : decode cX10_happens 80 = .ok (.invokevirtual 439, 3) := by decide +kernel
theorem dX10_happens_83 : decode cX10_happens 83 = .ok (.istore_n 2, 1) := by decide +kernel
theorem dX10_happens_84 : decode cX10_happens 84 = .ok (.aload_n 0, 1) := by decide +kernel
theorem dX10_happens_85 : decode cX10_happens 85 = .ok (.getfield 66, 3) := by decide +kernel
theorem dX10_happens_88 : decode cX10_happens 88 = .ok (.sipush 136, 3) := by decide +kernel
theorem dX10_happens_91 : decode cX10_happens 91 = .ok (.iload_n 2, 1) := by decide +kernel
theorem dX10_happens_92 : decode cX10_happens 92 = .ok (.iadd, 1) := by decide +kernel
theorem dX10_happens_93 : decode cX10_happens 93 = .ok (.aload_n 0, 1) := by decide +kernel
theorem dX10_happens_94 : decode cX10_happens 94 = .ok (.bipush 10, 2) := by decide +kernel
theorem dX10_happens_96 : decode cX10_happens 96 = .ok (.invokevirtual 439, 3) := by decide +kernel
theorem dX10_happens_99 : decode cX10_happens 99 = .ok (.iastore, 1) := by decide +kernel
theorem dX10_happens_100 : decode cX10_happens 100 = .ok (.goto 21, 3) := by decide +kernel
theorem dX10_happens_103 : decode cX10_happens 103 = .ok (.aload_n 0, 1) := by decide +kernel
theorem dX10_happens_104 : decode cX10_happens 104 = .ok (.getfield 66, 3) := by decide +kernel
theorem dX10_happens_107 : decode cX10_happens 107 = .ok (.sipush 146, 3) := by decide +kernel
theorem dX10_happens_110 : decode cX10_happens 110 = .ok (.aload_n 0, 1) := by decide +kernel
theorem dX10_happens_111 : decode cX10_happens 111 = .ok (.aload_n 0, 1) := by decide +kernel
theorem dX10_happens_112 : decode cX10_happens 112 = .ok (.getfield 273, 3) := by decide +kernel
theorem dX10_happens_115 : decode cX10_happens 115 = .ok (.invokevirtual 439, 3) := by decide +kernel
theorem dX10_happens_118 : decode cX10_happens 118 = .ok (.iadd, 1) := by decide +kernel
theorem dX10_happens_119 : decode cX10_happens 119 = .ok (.iconst 0, 1) := by decide +kernel
theorem dX10_happens_120 : decode cX10_happens 120 = .ok (.iastore, 1) := by decide +kernel
theorem dX10_happens_121 : decode cX10_happens 121 = .ok (.return_, 1) := by decide +kernel
theorem dX10_years_0 : decode cX10_years 0 = .ok (.aload_n 0, 1) := by decide +kernel
theorem dX10_years_1 : decode cX10_years 1 = .ok (.iconst 0, 1) := by decide +kernel
theorem dX10_years_2 : decode cX10_years 2 = .ok (.putfield 102, 3) := by decide +kernel
theorem dX10_years_5 : decode cX10_years 5 = .ok (.aload_n 0, 1) := by decide +kernel
theorem dX10_years_6 : decode cX10_years 6 = .ok (.iload_n 3, 1) := by decide +kernel
theorem dX10_years_7 : decode cX10_years 7 = .ok (.iconst 2, 1) := by decide +kernel
theorem dX10_years_8 : decode cX10_years 8 = .ok (.invokevirtual 365, 3) := by decide +kernel
theorem dX10_years_11 : decode cX10_years 11 = .ok (.ifCond .eq 13, 3) := by decide +kernel
theorem dX10_years_14 : decode cX10_years 14 = .ok (.aload_n 0, 1) := by decide +kernel
theorem dX10_years_15 : decode cX10_years 15 = .ok (.iload_n 2, 1) := by decide +kernel
theorem dX10_years_16 : decode cX10_years 16 = .ok (.iconst 0, 1) := by decide +kernel
theorem dX10_years_17 : decode cX10_years 17 = .ok (.iconst 2, 1) := by decide +kernel
theorem dX10_years_18 : decode cX10_years 18 = .ok (.invokevirtual 399, 3) := by decide +kernel
theorem dX10_years_21 : decode cX10_years 21 = .ok (.ifCond .ne 5, 3) := by decide +kernel
theorem dX10_years_24 : decode cX10_years 24 = .ok (.iconst 0, 1) := by decide +kernel
theorem dX10_years_25 : decode cX10_years 25 = .ok (.ireturn, 1) := by decide +kernel
theorem dX10_years_26 : decode cX10_years 26 = .ok (.aload_n 0, 1) := by decide +kernel
theorem dX10_years_27 : decode cX10_years 27 = .ok (.invokevirtual 393, 3) := by decide +kernel
theorem dX10_years_30 : decode cX10_years 30 = .ok (.aload_n 0, 1) := by decide +kernel
theorem dX10_years_31 : decode cX10_years 31 = .ok (.iload_n 1, 1) := by decide +kernel
theorem dX10_years_32 : decode cX10_years 32 = .ok (.putfield 435, 3) := by decide +kernel
theorem dX10_years_35 : decode cX10_years 35 = .ok (.iconst 0, 1) := by decide +kernel
theorem dX10_years_36 : decode cX10_years 36 = .ok (.istore 4, 2) := by decide +kernel
theorem dX10_years_38 : decode cX10_years 38 = .ok (.iconst 0, 1) := by decide +kernel
theorem dX10_years_39 : decode cX10_years 39 = .ok (.istore 5, 2) := by decide +kernel
theorem dX10_years_41 : decode cX10_years 41 = .ok (.iload 5, 2) := by decide +kernel
theorem dX10_years_43 : decode cX10_years 43 = .ok (.iload_n 2, 1) := by decide +kernel
theorem dX10_years_44 : decode cX10_years 44 = .ok (.if_icmp .ge 28, 3) := by decide +kernel
theorem dX10_years_47 : decode cX10_years 47 = .ok (.aload_n 0, 1) := by decide +kernel
theorem dX10_years_48 : decode cX10_years 48 = .ok (.invokevirtual 442, 3) := by decide +kernel
theorem dX10_years_51 : decode cX10_years 51 = .ok (.aload_n 0, 1) := by decide +kernel
theorem dX10_years_52 : decode cX10_years 52 = .ok (.bipush 105, 2) := by decide +kernel
theorem dX10_years_54 : decode cX10_years 54 = .ok (.invokevirtual 343, 3) := by decide +kernel
theorem dX10_years_57 : decode cX10_years 57 = .ok (.iload 4, 2) := by decide +kernel
theorem dX10_years_59 : decode cX10_years 59 = .ok (.aload_n 0, 1) := by decide +kernel
theorem dX10_years_60 : decode cX10_years 60 = .ok (.getfield 330, 3) := by decide +kernel
theorem dX10_years_63 : decode cX10_years 63 = .ok (.iadd, 1) := by decide +kernel
theorem dX10_years_64 : decode cX10_years 64 = .ok (.istore 4, 2) := by decide +kernel
theorem dX10_years_66 : decode cX10_years 66 = .ok (.iinc 5 1, 3) := by decide +kernel
theorem dX10_years_69 : decode cX10_years 69 = .ok (.goto (-28), 3) := by decide +kernel
theorem dX10_years_72 : decode cX10_years 72 = .ok (.iload_n 3, 1) := by decide +kernel
theorem dX10_years_73 : decode cX10_years 73 = .ok (.ifCond .ne 8, 3) := by decide +kernel
theorem dX10_years_76 : decode cX10_years 76 = .ok (.iload 4, 2) := by decide +kernel
theorem dX10_years_78 : decode cX10_years 78 = .ok (.goto 26, 3) := by decide +kernel
theorem dX10_years_81 : decode cX10_years 81 = .ok (.iload_n 3, 1) := by decide +kernel
theorem dX10_years_82 : decode cX10_years 82 = .ok (.iconst 1, 1) := by decide +kernel
theorem dX10_years_83 : decode cX10_years 83 = .ok (.if_icmp .ne 12, 3) := by decide +kernel
theorem dX10_years_86 : decode cX10_years 86 = .ok (.aload_n 0, 1) := by decide +kernel
theorem dX10_years_87 : decode cX10_years 87 = .ok (.bipush 105, 2) := by decide +kernel
theorem dX10_years_89 : decode cX10_years 89 = .ok (.invokevirtual 359, 3) := by decide +kernel
theorem dX10_years_92 : decode cX10_years 92 = .ok (.goto 12, 3) := by decide +kernel
theorem dX10_years_95 : decode cX10_years 95 = .ok (.aload_n 0, 1) := by decide +kernel
theorem dX10_years_96 : decode cX10_years 96 = .ok (.bipush 105, 2) := by decide +kernel
theorem dX10_years_98 : decode cX10_years 98 = .ok (.invokevirtual 353, 3) := by decide +kernel
theorem dX10_years_101 : decode cX10_years 101 = .ok (.invokestatic 312, 3) := by decide +kernel
theorem dX10_years_104 : decode cX10_years 104 = .ok (.ireturn, 1) := by decide +kernel
theorem dX10_image_0 : decode cX10_image 0 = .ok (.aload_n 0, 1) := by decide +kernel
theorem dX10_image_1 : decode cX10_image 1 = .ok (.iconst 0, 1) := by decide +kernel
theorem dX10_image_2 : decode cX10_image 2 = .ok (.putfield 102, 3) := by decide +kernel
theorem dX10_image_5 : decode cX10_image 5 = .ok (.aload_n 0, 1) := by decide +kernel
theorem dX10_image_6 : decode cX10_image 6 = .ok (.iconst 1, 1) := by decide +kernel
theorem dX10_image_7 : decode cX10_image 7 = .ok (.putfield 289, 3) := by decide +kernel
theorem dX10_image_10 : decode cX10_image 10 = .ok (.aload_n 0, 1) := by decide +kernel
theorem dX10_image_11 : decode cX10_image 11 = .ok (.aload_n 0, 1) := by decide +kernel
theorem dX10_image_12 : decode cX10_image 12 = .ok (.getfield 283, 3) := by decide +kernel
theorem dX10_image_15 : decode cX10_image 15 = .ok (.putfield 445, 3) := by decide +kernel
theorem dX10_image_18 : decode cX10_image 18 = .ok (.aload_n 0, 1) := by decide +kernel
theorem dX10_image_19 : decode cX10_image 19 = .ok (.aload_n 0, 1) := by decide +kernel
theorem dX10_image_20 : decode cX10_image 20 = .ok (.getfield 286, 3) := by decide +kernel
theorem dX10_image_23 : decode cX10_image 23 = .ok (.putfield 448, 3) := by decide +kernel
theorem dX10_image_26 : decode cX10_image 26 = .ok (.iconst 0, 1) := by decide +kernel
theorem dX10_image_27 : decode cX10_image 27 = .ok (.istore_n 1, 1) := by decide +kernel
theorem dX10_image_28 : decode cX10_image 28 = .ok (.iload_n 1, 1) := by decide +kernel
theorem dX10_image_29 : decode cX10_image 29 = .ok (.bipush 105, 2) := by decide +kernel
theorem dX10_image_31 : decode cX10_image 31 = .ok (.if_icmp .ge 21, 3) := by decide +kernel
theorem dX10_image_34 : decode cX10_image 34 = .ok (.aload_n 0, 1) := by decide +kernel
theorem dX10_image_35 : decode cX10_image 35 = .ok (.getfield 93, 3) := by decide +kernel
theorem dX10_image_38 : decode cX10_image 38 = .ok (.iload_n 1, 1) := by decide +kernel
theorem dX10_image_39 : decode cX10_image 39 = .ok (.aload_n 0, 1) := by decide +kernel
theorem dX10_image_40 : decode cX10_image 40 = .ok (.getfield 66, 3) := by decide +kernel
theorem dX10_image_43 : decode cX10_image 43 = .ok (.iload_n 1, 1) := by decide +kernel
theorem dX10_image_44 : decode cX10_image 44 = .ok (.iaload, 1) := by decide +kernel
theorem dX10_image_45 : decode cX10_image 45 = .ok (.iastore, 1) := by decide +kernel
theorem dX10_image_46 : decode cX10_image 46 = .ok (.iinc 1 1, 3) := by decide +kernel
theorem dX10_image_49 : decode cX10_image 49 = .ok (.goto (-21), 3) := by decide +kernel
theorem dX10_image_52 : decode cX10_image 52 = .ok (.aload_n 0, 1) := by decide +kernel
theorem dX10_image_53 : decode cX10_image 53 = .ok (.aload_n 0, 1) := by decide +kernel
theorem dX10_image_54 : decode cX10_image 54 = .ok (.getfield 69, 3) := by decide +kernel
theorem dX10_image_57 : decode cX10_image 57 = .ok (.aload_n 0, 1) := by decide +kernel
theorem dX10_image_58 : decode cX10_image 58 = .ok (.getfield 96, 3) := by decide +kernel
theorem dX10_image_61 : decode cX10_image 61 = .ok (.invokevirtual 279, 3) := by decide +kernel
theorem dX10_image_64 : decode cX10_image 64 = .ok (.aload_n 0, 1) := by decide +kernel
theorem dX10_image_65 : decode cX10_image 65 = .ok (.aload_n 0, 1) := by decide +kernel
theorem dX10_image_66 : decode cX10_image 66 = .ok (.getfield 84, 3) := by decide +kernel
theorem dX10_image_69 : decode cX10_image 69 = .ok (.aload_n 0, 1) := by decide +kernel
theorem dX10_image_70 : decode cX10_image 70 = .ok (.getfield 99, 3) := by decide +kernel
theorem dX10_image_73 : decode cX10_image 73 = .ok (.invokevirtual 279, 3) := by decide +kernel
theorem dX10_image_76 : decode cX10_image 76 = .ok (.return_, 1) := by decide +kernel
theorem dX10_restore_0 : decode cX10_restore 0 = .ok (.aload_n 0, 1) := by decide +kernel
theorem dX10_restore_1 : decode cX10_restore 1 = .ok (.iconst 0, 1) := by decide +kernel
theorem dX10_restore_2 : decode cX10_restore 2 = .ok (.putfield 102, 3) := by decide +kernel
theorem dX10_restore_5 : decode cX10_restore 5 = .ok (.aload_n 0, 1) := by decide +kernel
theorem dX10_restore_6 : decode cX10_restore 6 = .ok (.getfield 289, 3) := by decide +kernel
theorem dX10_restore_9 : decode cX10_restore 9 = .ok (.ifCond .ne 5, 3) := by decide +kernel
theorem dX10_restore_12 : decode cX10_restore 12 = .ok (.iconst 0, 1) := by decide +kernel
theorem dX10_restore_13 : decode cX10_restore 13 = .ok (.ireturn, 1) := by decide +kernel
theorem dX10_restore_14 : decode cX10_restore 14 = .ok (.aload_n 0, 1) := by decide +kernel
theorem dX10_restore_15 : decode cX10_restore 15 = .ok (.aload_n 0, 1) := by decide +kernel
theorem dX10_restore_16 : decode cX10_restore 16 = .ok (.getfield 445, 3) := by decide +kernel
theorem dX10_restore_19 : decode cX10_restore 19 = .ok (.putfield 283, 3) := by decide +kernel
theorem dX10_restore_22 : decode cX10_restore 22 = .ok (.aload_n 0, 1) := by decide +kernel
theorem dX10_restore_23 : decode cX10_restore 23 = .ok (.aload_n 0, 1) := by decide +kernel
theorem dX10_restore_24 : decode cX10_restore 24 = .ok (.getfield 448, 3) := by decide +kernel
theorem dX10_restore_27 : decode cX10_restore 27 = .ok (.putfield 286, 3) := by decide +kernel
theorem dX10_restore_30 : decode cX10_restore 30 = .ok (.iconst 0, 1) := by decide +kernel
theorem dX10_restore_31 : decode cX10_restore 31 = .ok (.istore_n 1, 1) := by decide +kernel
theorem dX10_restore_32 : decode cX10_restore 32 = .ok (.iload_n 1, 1) := by decide +kernel
theorem dX10_restore_33 : decode cX10_restore 33 = .ok (.bipush 105, 2) := by decide +kernel
theorem dX10_restore_35 : decode cX10_restore 35 = .ok (.if_icmp .ge 21, 3) := by decide +kernel
theorem dX10_restore_38 : decode cX10_restore 38 = .ok (.aload_n 0, 1) := by decide +kernel
theorem dX10_restore_39 : decode cX10_restore 39 = .ok (.getfield 66, 3) := by decide +kernel
theorem dX10_restore_42 : decode cX10_restore 42 = .ok (.iload_n 1, 1) := by decide +kernel
theorem dX10_restore_43 : decode cX10_restore 43 = .ok (.aload_n 0, 1) := by decide +kernel
theorem dX10_restore_44 : decode cX10_restore 44 = .ok (.getfield 93, 3) := by decide +kernel
theorem dX10_restore_47 : decode cX10_restore 47 = .ok (.iload_n 1, 1) := by decide +kernel
theorem dX10_restore_48 : decode cX10_restore 48 = .ok (.iaload, 1) := by decide +kernel
theorem dX10_restore_49 : decode cX10_restore 49 = .ok (.iastore, 1) := by decide +kernel
theorem dX10_restore_50 : decode cX10_restore 50 = .ok (.iinc 1 1, 3) := by decide +kernel
theorem dX10_restore_53 : decode cX10_restore 53 = .ok (.goto (-21), 3) := by decide +kernel
theorem dX10_restore_56 : decode cX10_restore 56 = .ok (.aload_n 0, 1) := by decide +kernel
theorem dX10_restore_57 : decode cX10_restore 57 = .ok (.aload_n 0, 1) := by decide +kernel
theorem dX10_restore_58 : decode cX10_restore 58 = .ok (.getfield 96, 3) := by decide +kernel
theorem dX10_restore_61 : decode cX10_restore 61 = .ok (.aload_n 0, 1) := by decide +kernel
theorem dX10_restore_62 : decode cX10_restore 62 = .ok (.getfield 69, 3) := by decide +kernel
theorem dX10_restore_65 : decode cX10_restore 65 = .ok (.invokevirtual 279, 3) := by decide +kernel
theorem dX10_restore_68 : decode cX10_restore 68 = .ok (.aload_n 0, 1) := by decide +kernel
theorem dX10_restore_69 : decode cX10_restore 69 = .ok (.aload_n 0, 1) := by decide +kernel
theorem dX10_restore_70 : decode cX10_restore 70 = .ok (.getfield 99, 3) := by decide +kernel
theorem dX10_restore_73 : decode cX10_restore 73 = .ok (.aload_n 0, 1) := by decide +kernel
theorem dX10_restore_74 : decode cX10_restore 74 = .ok (.getfield 84, 3) := by decide +kernel
theorem dX10_restore_77 : decode cX10_restore 77 = .ok (.invokevirtual 279, 3) := by decide +kernel
theorem dX10_restore_80 : decode cX10_restore 80 = .ok (.iconst 1, 1) := by decide +kernel
theorem dX10_restore_81 : decode cX10_restore 81 = .ok (.ireturn, 1) := by decide +kernel
