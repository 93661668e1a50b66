theorem dX3_init_0 : decode cX3_init 0 = .ok (.aload_n 0, 1) := by decide +kernel
theorem dX3_init_1 : decode cX3_init 1 = .ok (.invokespecial 3, 3) := by decide +kernel
theorem dX3_init_4 : decode cX3_init 4 = .ok (.aload_n 0, 1) := by decide +kernel
theorem dX3_init_5 : decode cX3_init 5 = .ok (.iconst 0, 1) := by decide +kernel
theorem dX3_init_6 : decode cX3_init 6 = .ok (.newarray .byte, 2) := by decide +kernel
theorem dX3_init_8 : decode cX3_init 8 = .ok (.putfield 9, 3) := by decide +kernel
theorem dX3_init_11 : decode cX3_init 11 = .ok (.aload_n 0, 1) := by decide +kernel
theorem dX3_init_12 : decode cX3_init 12 = .ok (.sipush 128, 3) := by decide +kernel
theorem dX3_init_15 : decode cX3_init 15 = .ok (.newarray .int, 2) := by decide +kernel
theorem dX3_init_17 : decode cX3_init 17 = .ok (.putfield 15, 3) := by decide +kernel
theorem dX3_init_20 : decode cX3_init 20 = .ok (.return_, 1) := by decide +kernel
theorem dX3_begin_0 : decode cX3_begin 0 = .ok (.aload_n 0, 1) := by decide +kernel
theorem dX3_begin_1 : decode cX3_begin 1 = .ok (.aload_n 1, 1) := by decide +kernel
theorem dX3_begin_2 : decode cX3_begin 2 = .ok (.putfield 9, 3) := by decide +kernel
theorem dX3_begin_5 : decode cX3_begin 5 = .ok (.aload_n 0, 1) := by decide +kernel
theorem dX3_begin_6 : decode cX3_begin 6 = .ok (.iload_n 2, 1) := by decide +kernel
theorem dX3_begin_7 : decode cX3_begin 7 = .ok (.aload_n 1, 1) := by decide +kernel
theorem dX3_begin_8 : decode cX3_begin 8 = .ok (.arraylength, 1) := by decide +kernel
theorem dX3_begin_9 : decode cX3_begin 9 = .ok (.invokestatic 19, 3) := by decide +kernel
theorem dX3_begin_12 : decode cX3_begin 12 = .ok (.putfield 25, 3) := by decide +kernel
theorem dX3_begin_15 : decode cX3_begin 15 = .ok (.aload_n 0, 1) := by decide +kernel
theorem dX3_begin_16 : decode cX3_begin 16 = .ok (.aload_n 3, 1) := by decide +kernel
theorem dX3_begin_17 : decode cX3_begin 17 = .ok (.putfield 29, 3) := by decide +kernel
theorem dX3_begin_20 : decode cX3_begin 20 = .ok (.aload_n 3, 1) := by decide +kernel
theorem dX3_begin_21 : decode cX3_begin 21 = .ok (.invokevirtual 33, 3) := by decide +kernel
theorem dX3_begin_24 : decode cX3_begin 24 = .ok (.aload_n 0, 1) := by decide +kernel
theorem dX3_begin_25 : decode cX3_begin 25 = .ok (.iconst 0, 1) := by decide +kernel
theorem dX3_begin_26 : decode cX3_begin 26 = .ok (.putfield 38, 3) := by decide +kernel
theorem dX3_begin_29 : decode cX3_begin 29 = .ok (.aload_n 0, 1) := by decide +kernel
theorem dX3_begin_30 : decode cX3_begin 30 = .ok (.iconst 0, 1) := by decide +kernel
theorem dX3_begin_31 : decode cX3_begin 31 = .ok (.putfield 41, 3) := by decide +kernel
theorem dX3_begin_34 : decode cX3_begin 34 = .ok (.aload_n 0, 1) := by decide +kernel
theorem dX3_begin_35 : decode cX3_begin 35 = .ok (.iconst 0, 1) := by decide +kernel
theorem dX3_begin_36 : decode cX3_begin 36 = .ok (.putfield 45, 3) := by decide +kernel
theorem dX3_begin_39 : decode cX3_begin 39 = .ok (.aload_n 0, 1) := by decide +kernel
theorem dX3_begin_40 : decode cX3_begin 40 = .ok (.iconst 0, 1) := by decide +kernel
theorem dX3_begin_41 : decode cX3_begin 41 = .ok (.putfield 48, 3) := by decide +kernel
theorem dX3_begin_44 : decode cX3_begin 44 = .ok (.aload_n 0, 1) := by decide +kernel
theorem dX3_begin_45 : decode cX3_begin 45 = .ok (.iconst (-1), 1) := by decide +kernel
theorem dX3_begin_46 : decode cX3_begin 46 = .ok (.putfield 51, 3) := by decide +kernel
theorem dX3_begin_49 : decode cX3_begin 49 = .ok (.aload_n 0, 1) := by decide +kernel
theorem dX3_begin_50 : decode cX3_begin 50 = .ok (.invokevirtual 54, 3) := by decide +kernel
theorem dX3_begin_53 : decode cX3_begin 53 = .ok (.return_, 1) := by decide +kernel
theorem dX3_hasMore_0 : decode cX3_hasMore 0 = .ok (.aload_n 0, 1) := by decide +kernel
theorem dX3_hasMore_1 : decode cX3_hasMore 1 = .ok (.getfield 57, 3) := by decide +kernel
theorem dX3_hasMore_4 : decode cX3_hasMore 4 = .ok (.ifCond .eq 7, 3) := by decide +kernel
theorem dX3_hasMore_7 : decode cX3_hasMore 7 = .ok (.iconst 1, 1) := by decide +kernel
theorem dX3_hasMore_8 : decode cX3_hasMore 8 = .ok (.goto 4, 3) := by decide +kernel
theorem dX3_hasMore_11 : decode cX3_hasMore 11 = .ok (.iconst 0, 1) := by decide +kernel
theorem dX3_hasMore_12 : decode cX3_hasMore 12 = .ok (.ireturn, 1) := by decide +kernel
theorem dX3_fail_0 : decode cX3_fail 0 = .ok (.aload_n 0, 1) := by decide +kernel
theorem dX3_fail_1 : decode cX3_fail 1 = .ok (.iload_n 1, 1) := by decide +kernel
theorem dX3_fail_2 : decode cX3_fail 2 = .ok (.putfield 48, 3) := by decide +kernel
theorem dX3_fail_5 : decode cX3_fail 5 = .ok (.aload_n 0, 1) := by decide +kernel
theorem dX3_fail_6 : decode cX3_fail 6 = .ok (.aload_n 0, 1) := by decide +kernel
theorem dX3_fail_7 : decode cX3_fail 7 = .ok (.getfield 60, 3) := by decide +kernel
theorem dX3_fail_10 : decode cX3_fail 10 = .ok (.putfield 51, 3) := by decide +kernel
theorem dX3_fail_13 : decode cX3_fail 13 = .ok (.iconst 0, 1) := by decide +kernel
theorem dX3_fail_14 : decode cX3_fail 14 = .ok (.ireturn, 1) := by decide +kernel
theorem dX3_next_0 : decode cX3_next 0 = .ok (.aload_n 0, 1) := by decide +kernel
theorem dX3_next_1 : decode cX3_next 1 = .ok (.aload_n 0, 1) := by decide +kernel
theorem dX3_next_2 : decode cX3_next 2 = .ok (.getfield 38, 3) := by decide +kernel
theorem dX3_next_5 : decode cX3_next 5 = .ok (.putfield 60, 3) := by decide +kernel
theorem dX3_next_8 : decode cX3_next 8 = .ok (.aload_n 0, 1) := by decide +kernel
theorem dX3_next_9 : decode cX3_next 9 = .ok (.getfield 60, 3) := by decide +kernel
theorem dX3_next_12 : decode cX3_next 12 = .ok (.aload_n 0, 1) := by decide +kernel
theorem dX3_next_13 : decode cX3_next 13 = .ok (.getfield 25, 3) := by decide +kernel
theorem dX3_next_16 : decode cX3_next 16 = .ok (.if_icmp .ge 44, 3) := by decide +kernel
theorem dX3_next_19 : decode cX3_next 19 = .ok (.aload_n 0, 1) := by decide +kernel
theorem dX3_next_20 : decode cX3_next 20 = .ok (.getfield 9, 3) := by decide +kernel
theorem dX3_next_23 : decode cX3_next 23 = .ok (.aload_n 0, 1) := by decide +kernel
theorem dX3_next_24 : decode cX3_next 24 = .ok (.getfield 60, 3) := by decide +kernel
theorem dX3_next_27 : decode cX3_next 27 = .ok (.baload, 1) := by decide +kernel
theorem dX3_next_28 : decode cX3_next 28 = .ok (.bipush 32, 2) := by decide +kernel
theorem dX3_next_30 : decode cX3_next 30 = .ok (.if_icmp .eq 17, 3) := by decide +kernel
theorem dX3_next_33 : decode cX3_next 33 = .ok (.aload_n 0, 1) := by decide +kernel
theorem dX3_next_34 : decode cX3_next 34 = .ok (.getfield 9, 3) := by decide +kernel
theorem dX3_next_37 : decode cX3_next 37 = .ok (.aload_n 0, 1) := by decide +kernel
theorem dX3_next_38 : decode cX3_next 38 = .ok (.getfield 60, 3) := by decide +kernel
theorem dX3_next_41 : decode cX3_next 41 = .ok (.baload, 1) := by decide +kernel
theorem dX3_next_42 : decode cX3_next 42 = .ok (.bipush 10, 2) := by decide +kernel
theorem dX3_next_44 : decode cX3_next 44 = .ok (.if_icmp .ne 16, 3) := by decide +kernel
theorem dX3_next_47 : decode cX3_next 47 = .ok (.aload_n 0, 1) := by decide +kernel
theorem dX3_next_48 : decode cX3_next 48 = .ok (.dup, 1) := by decide +kernel
theorem dX3_next_49 : decode cX3_next 49 = .ok (.getfield 60, 3) := by decide +kernel
theorem dX3_next_52 : decode cX3_next 52 = .ok (.iconst 1, 1) := by decide +kernel
theorem dX3_next_53 : decode cX3_next 53 = .ok (.iadd, 1) := by decide +kernel
theorem dX3_next_54 : decode cX3_next 54 = .ok (.putfield 60, 3) := by decide +kernel
theorem dX3_next_57 : decode cX3_next 57 = .ok (.goto (-49), 3) := by decide +kernel
theorem dX3_next_60 : decode cX3_next 60 = .ok (.aload_n 0, 1) := by decide +kernel
theorem dX3_next_61 : decode cX3_next 61 = .ok (.aload_n 0, 1) := by decide +kernel
theorem dX3_next_62 : decode cX3_next 62 = .ok (.getfield 60, 3) := by decide +kernel
theorem dX3_next_65 : decode cX3_next 65 = .ok (.putfield 38, 3) := by decide +kernel
theorem dX3_next_68 : decode cX3_next 68 = .ok (.aload_n 0, 1) := by decide +kernel
theorem dX3_next_69 : decode cX3_next 69 = .ok (.getfield 60, 3) := by decide +kernel
theorem dX3_next_72 : decode cX3_next 72 = .ok (.aload_n 0, 1) := by decide +kernel
theorem dX3_next_73 : decode cX3_next 73 = .ok (.getfield 25, 3) := by decide +kernel
theorem dX3_next_76 : decode cX3_next 76 = .ok (.if_icmp .lt 11, 3) := by decide +kernel
theorem dX3_next_79 : decode cX3_next 79 = .ok (.aload_n 0, 1) := by decide +kernel
theorem dX3_next_80 : decode cX3_next 80 = .ok (.iconst 0, 1) := by decide +kernel
theorem dX3_next_81 : decode cX3_next 81 = .ok (.putfield 57, 3) := by decide +kernel
theorem dX3_next_84 : decode cX3_next 84 = .ok (.goto 114, 3) := by decide +kernel
theorem dX3_next_87 : decode cX3_next 87 = .ok (.aload_n 0, 1) := by decide +kernel
theorem dX3_next_88 : decode cX3_next 88 = .ok (.getfield 9, 3) := by decide +kernel
theorem dX3_next_91 : decode cX3_next 91 = .ok (.aload_n 0, 1) := by decide +kernel
theorem dX3_next_92 : decode cX3_next 92 = .ok (.getfield 60, 3) := by decide +kernel
theorem dX3_next_95 : decode cX3_next 95 = .ok (.baload, 1) := by decide +kernel
theorem dX3_next_96 : decode cX3_next 96 = .ok (.bipush 97, 2) := by decide +kernel
theorem dX3_next_98 : decode cX3_next 98 = .ok (.if_icmp .lt 24, 3) := by decide +kernel
theorem dX3_next_101 : decode cX3_next 101 = .ok (.aload_n 0, 1) := by decide +kernel
theorem dX3_next_102 : decode cX3_next 102 = .ok (.getfield 9, 3) := by decide +kernel
theorem dX3_next_105 : decode cX3_next 105 = .ok (.aload_n 0, 1) := by decide +kernel
theorem dX3_next_106 : decode cX3_next 106 = .ok (.getfield 60, 3) := by decide +kernel
theorem dX3_next_109 : decode cX3_next 109 = .ok (.baload, 1) := by decide +kernel
theorem dX3_next_110 : decode cX3_next 110 = .ok (.bipush 122, 2) := by decide +kernel
theorem dX3_next_112 : decode cX3_next 112 = .ok (.if_icmp .gt 10, 3) := by decide +kernel
theorem dX3_next_115 : decode cX3_next 115 = .ok (.aload_n 0, 1) := by decide +kernel
theorem dX3_next_116 : decode cX3_next 116 = .ok (.invokevirtual 63, 3) := by decide +kernel
theorem dX3_next_119 : decode cX3_next 119 = .ok (.goto 79, 3) := by decide +kernel
theorem dX3_next_122 : decode cX3_next 122 = .ok (.aload_n 0, 1) := by decide +kernel
theorem dX3_next_123 : decode cX3_next 123 = .ok (.getfield 9, 3) := by decide +kernel
theorem dX3_next_126 : decode cX3_next 126 = .ok (.aload_n 0, 1) := by decide +kernel
theorem dX3_next_127 : decode cX3_next 127 = .ok (.getfield 60, 3) := by decide +kernel
theorem dX3_next_130 : decode cX3_next 130 = .ok (.baload, 1) := by decide +kernel
theorem dX3_next_131 : decode cX3_next 131 = .ok (.bipush 48, 2) := by decide +kernel
theorem dX3_next_133 : decode cX3_next 133 = .ok (.if_icmp .lt 24, 3) := by decide +kernel
theorem dX3_next_136 : decode cX3_next 136 = .ok (.aload_n 0, 1) := by decide +kernel
theorem dX3_next_137 : decode cX3_next 137 = .ok (.getfield 9, 3) := by decide +kernel
theorem dX3_next_140 : decode cX3_next 140 = .ok (.aload_n 0, 1) := by decide +kernel
theorem dX3_next_141 : decode cX3_next 141 = .ok (.getfield 60, 3) := by decide +kernel
theorem dX3_next_144 : decode cX3_next 144 = .ok (.baload, 1) := by decide +kernel
theorem dX3_next_145 : decode cX3_next 145 = .ok (.bipush 57, 2) := by decide +kernel
theorem dX3_next_147 : decode cX3_next 147 = .ok (.if_icmp .gt 10, 3) := by decide +kernel
theorem dX3_next_150 : decode cX3_next 150 = .ok (.aload_n 0, 1) := by decide +kernel
theorem dX3_next_151 : decode cX3_next 151 = .ok (.invokevirtual 66, 3) := by decide +kernel
theorem dX3_next_154 : decode cX3_next 154 = .ok (.goto 44, 3) := by decide +kernel
theorem dX3_next_157 : decode cX3_next 157 = .ok (.aload_n 0, 1) := by decide +kernel
theorem dX3_next_158 : decode cX3_next 158 = .ok (.ldc 69, 2) := by decide +kernel
theorem dX3_next_160 : decode cX3_next 160 = .ok (.aload_n 0, 1) := by decide +kernel
theorem dX3_next_161 : decode cX3_next 161 = .ok (.getfield 9, 3) := by decide +kernel
theorem dX3_next_164 : decode cX3_next 164 = .ok (.aload_n 0, 1) := by decide +kernel
theorem dX3_next_165 : decode cX3_next 165 = .ok (.getfield 60, 3) := by decide +kernel
theorem dX3_next_168 : decode cX3_next 168 = .ok (.baload, 1) := by decide +kernel
theorem dX3_next_169 : decode cX3_next 169 = .ok (.sipush 255, 3) := by decide +kernel
theorem dX3_next_172 : decode cX3_next 172 = .ok (.iand, 1) := by decide +kernel
theorem dX3_next_173 : decode cX3_next 173 = .ok (.i2c, 1) := by decide +kernel
theorem dX3_next_174 : decode cX3_next 174 = .ok (.invokevirtual 71, 3) := by decide +kernel
theorem dX3_next_177 : decode cX3_next 177 = .ok (.ifCond .lt 7, 3) := by decide +kernel
theorem dX3_next_180 : decode cX3_next 180 = .ok (.iconst 3, 1) := by decide +kernel
theorem dX3_next_181 : decode cX3_next 181 = .ok (.goto 4, 3) := by decide +kernel
theorem dX3_next_184 : decode cX3_next 184 = .ok (.iconst 4, 1) := by decide +kernel
theorem dX3_next_185 : decode cX3_next 185 = .ok (.putfield 57, 3) := by decide +kernel
theorem dX3_next_188 : decode cX3_next 188 = .ok (.aload_n 0, 1) := by decide +kernel
theorem dX3_next_189 : decode cX3_next 189 = .ok (.dup, 1) := by decide +kernel
theorem dX3_next_190 : decode cX3_next 190 = .ok (.getfield 38, 3) := by decide +kernel
theorem dX3_next_193 : decode cX3_next 193 = .ok (.iconst 1, 1) := by decide +kernel
theorem dX3_next_194 : decode cX3_next 194 = .ok (.iadd, 1) := by decide +kernel
theorem dX3_next_195 : decode cX3_next 195 = .ok (.putfield 38, 3) := by decide +kernel
theorem dX3_next_198 : decode cX3_next 198 = .ok (.return_, 1) := by decide +kernel
theorem dX3_nextWord_0 : decode cX3_nextWord 0 = .ok (.aload_n 0, 1) := by decide +kernel
theorem dX3_nextWord_1 : decode cX3_nextWord 1 = .ok (.iconst 1, 1) := by decide +kernel
theorem dX3_nextWord_2 : decode cX3_nextWord 2 = .ok (.putfield 57, 3) := by decide +kernel
theorem dX3_nextWord_5 : decode cX3_nextWord 5 = .ok (.aload_n 0, 1) := by decide +kernel
theorem dX3_nextWord_6 : decode cX3_nextWord 6 = .ok (.getfield 38, 3) := by decide +kernel
theorem dX3_nextWord_9 : decode cX3_nextWord 9 = .ok (.aload_n 0, 1) := by decide +kernel
theorem dX3_nextWord_10 : decode cX3_nextWord 10 = .ok (.getfield 25, 3) := by decide +kernel
theorem dX3_nextWord_13 : decode cX3_nextWord 13 = .ok (.if_icmp .ge 44, 3) := by decide +kernel
theorem dX3_nextWord_16 : decode cX3_nextWord 16 = .ok (.aload_n 0, 1) := by decide +kernel
theorem dX3_nextWord_17 : decode cX3_nextWord 17 = .ok (.getfield 9, 3) := by decide +kernel
theorem dX3_nextWord_20 : decode cX3_nextWord 20 = .ok (.aload_n 0, 1) := by decide +kernel
theorem dX3_nextWord_21 : decode cX3_nextWord 21 = .ok (.getfield 38, 3) := by decide +kernel
theorem dX3_nextWord_24 : decode cX3_nextWord 24 = .ok (.baload, 1) := by decide +kernel
theorem dX3_nextWord_25 : decode cX3_nextWord 25 = .ok (.bipush 97, 2) := by decide +kernel
theorem dX3_nextWord_27 : decode cX3_nextWord 27 = .ok (.if_icmp .lt 30, 3) := by decide +kernel
theorem dX3_nextWord_30 : decode cX3_nextWord 30 = .ok (.aload_n 0, 1) := by decide +kernel
theorem dX3_nextWord_31 : decode cX3_nextWord 31 = .ok (.getfield 9, 3) := by decide +kernel
theorem dX3_nextWord_34 : decode cX3_nextWord 34 = .ok (.aload_n 0, 1) := by decide +kernel
theorem dX3_nextWord_35 : decode cX3_nextWord 35 = .ok (.getfield 38, 3) := by decide +kernel
theorem dX3_nextWord_38 : decode cX3_nextWord 38 = .ok (.baload, 1) := by decide +kernel
theorem dX3_nextWord_39 : decode cX3_nextWord 39 = .ok (.bipush 122, 2) := by decide +kernel
theorem dX3_nextWord_41 : decode cX3_nextWord 41 = .ok (.if_icmp .gt 16, 3) := by decide +kernel
theorem dX3_nextWord_44 : decode cX3_nextWord 44 = .ok (.aload_n 0, 1) := by decide +kernel
theorem dX3_nextWord_45 : decode cX3_nextWord 45 = .ok (.dup, 1) := by decide +kernel
theorem dX3_nextWord_46 : decode cX3_nextWord 46 = .ok (.getfield 38, 3) := by decide +kernel
theorem dX3_nextWord_49 : decode cX3_nextWord 49 = .ok (.iconst 1, 1) := by decide +kernel
theorem dX3_nextWord_50 : decode cX3_nextWord 50 = .ok (.iadd, 1) := by decide +kernel
theorem dX3_nextWord_51 : decode cX3_nextWord 51 = .ok (.putfield 38, 3) := by decide +kernel
theorem dX3_nextWord_54 : decode cX3_nextWord 54 = .ok (.goto (-49), 3) := by decide +kernel
theorem dX3_nextWord_57 : decode cX3_nextWord 57 = .ok (.return_, 1) := by decide +kernel
theorem dX3_nextNumber_0 : decode cX3_nextNumber 0 = .ok (.aload_n 0, 1) := by decide +kernel
theorem dX3_nextNumber_1 : decode cX3_nextNumber 1 = .ok (.iconst 2, 1) := by decide +kernel
theorem dX3_nextNumber_2 : decode cX3_nextNumber 2 = .ok (.putfield 57, 3) := by decide +kernel
theorem dX3_nextNumber_5 : decode cX3_nextNumber 5 = .ok (.aload_n 0, 1) := by decide +kernel
theorem dX3_nextNumber_6 : decode cX3_nextNumber 6 = .ok (.iconst 0, 1) := by decide +kernel
theorem dX3_nextNumber_7 : decode cX3_nextNumber 7 = .ok (.putfield 77, 3) := by decide +kernel
theorem dX3_nextNumber_10 : decode cX3_nextNumber 10 = .ok (.aload_n 0, 1) := by decide +kernel
theorem dX3_nextNumber_11 : decode cX3_nextNumber 11 = .ok (.iconst 0, 1) := by decide +kernel
theorem dX3_nextNumber_12 : decode cX3_nextNumber 12 = .ok (.putfield 80, 3) := by decide +kernel
theorem dX3_nextNumber_15 : decode cX3_nextNumber 15 = .ok (.aload_n 0, 1) := by decide +kernel
theorem dX3_nextNumber_16 : decode cX3_nextNumber 16 = .ok (.getfield 38, 3) := by decide +kernel
theorem dX3_nextNumber_19 : decode cX3_nextNumber 19 = .ok (.aload_n 0, 1) := by decide +kernel
theorem dX3_nextNumber_20 : decode cX3_nextNumber 20 = .ok (.getfield 25, 3) := by decide +kernel
theorem dX3_nextNumber_23 : decode cX3_nextNumber 23 = .ok (.if_icmp .ge 86, 3) := by decide +kernel
theorem dX3_nextNumber_26 : decode cX3_nextNumber 26 = .ok (.aload_n 0, 1) := by decide +kernel
theorem dX3_nextNumber_27 : decode cX3_nextNumber 27 = .ok (.getfield 9, 3) := by decide +kernel
theorem dX3_nextNumber_30 : decode cX3_nextNumber 30 = .ok (.aload_n 0, 1) := by decide +kernel
theorem dX3_nextNumber_31 : decode cX3_nextNumber 31 = .ok (.getfield 38, 3) := by decide +kernel
theorem dX3_nextNumber_34 : decode cX3_nextNumber 34 = .ok (.baload, 1) := by decide +kernel
theorem dX3_nextNumber_35 : decode cX3_nextNumber 35 = .ok (.bipush 48, 2) := by decide +kernel
theorem dX3_nextNumber_37 : decode cX3_nextNumber 37 = .ok (.if_icmp .lt 72, 3) := by decide +kernel
theorem dX3_nextNumber_40 : decode cX3_nextNumber 40 = .ok (.aload_n 0, 1) := by decide +kernel
theorem dX3_nextNumber_41 : decode cX3_nextNumber 41 = .ok (.getfield 9, 3) := by decide +kernel
theorem dX3_nextNumber_44 : decode cX3_nextNumber 44 = .ok (.aload_n 0, 1) := by decide +kernel
theorem dX3_nextNumber_45 : decode cX3_nextNumber 45 = .ok (.getfield 38, 3) := by decide +kernel
theorem dX3_nextNumber_48 : decode cX3_nextNumber 48 = .ok (.baload, 1) := by decide +kernel
theorem dX3_nextNumber_49 : decode cX3_nextNumber 49 = .ok (.bipush 57, 2) := by decide +kernel
theorem dX3_nextNumber_51 : decode cX3_nextNumber 51 = .ok (.if_icmp .gt 58, 3) := by decide +kernel
theorem dX3_nextNumber_54 : decode cX3_nextNumber 54 = .ok (.aload_n 0, 1) := by decide +kernel
theorem dX3_nextNumber_55 : decode cX3_nextNumber 55 = .ok (.getfield 80, 3) := by decide +kernel
theorem dX3_nextNumber_58 : decode cX3_nextNumber 58 = .ok (.iconst 4, 1) := by decide +kernel
theorem dX3_nextNumber_59 : decode cX3_nextNumber 59 = .ok (.if_icmp .ge 27, 3) := by decide +kernel
theorem dX3_nextNumber_62 : decode cX3_nextNumber 62 = .ok (.aload_n 0, 1) := by decide +kernel
theorem dX3_nextNumber_63 : decode cX3_nextNumber 63 = .ok (.aload_n 0, 1) := by decide +kernel
theorem dX3_nextNumber_64 : decode cX3_nextNumber 64 = .ok (.getfield 77, 3) := by decide +kernel
theorem dX3_nextNumber_67 : decode cX3_nextNumber 67 = .ok (.bipush 10, 2) := by decide +kernel
theorem dX3_nextNumber_69 : decode cX3_nextNumber 69 = .ok (.imul, 1) := by decide +kernel
theorem dX3_nextNumber_70 : decode cX3_nextNumber 70 = .ok (.aload_n 0, 1) := by decide +kernel
theorem dX3_nextNumber_71 : decode cX3_nextNumber 71 = .ok (.getfield 9, 3) := by decide +kernel
theorem dX3_nextNumber_74 : decode cX3_nextNumber 74 = .ok (.aload_n 0, 1) := by decide +kernel
theorem dX3_nextNumber_75 : decode cX3_nextNumber 75 = .ok (.getfield 38, 3) := by decide +kernel
theorem dX3_nextNumber_78 : decode cX3_nextNumber 78 = .ok (.baload, 1) := by decide +kernel
theorem dX3_nextNumber_79 : decode cX3_nextNumber 79 = .ok (.iadd, 1) := by decide +kernel
theorem dX3_nextNumber_80 : decode cX3_nextNumber 80 = .ok (.bipush 48, 2) := by decide +kernel
theorem dX3_nextNumber_82 : decode cX3_nextNumber 82 = .ok (.isub, 1) := by decide +kernel
theorem dX3_nextNumber_83 : decode cX3_nextNumber 83 = .ok (.putfield 77, 3) := by decide +kernel
theorem dX3_nextNumber_86 : decode cX3_nextNumber 86 = .ok (.aload_n 0, 1) := by decide +kernel
theorem dX3_nextNumber_87 : decode cX3_nextNumber 87 = .ok (.dup, 1) := by decide +kernel
theorem dX3_nextNumber_88 : decode cX3_nextNumber 88 = .ok (.getfield 80, 3) := by decide +kernel
theorem dX3_nextNumber_91 : decode cX3_nextNumber 91 = .ok (.iconst 1, 1) := by decide +kernel
theorem dX3_nextNumber_92 : decode cX3_nextNumber 92 = .ok (.iadd, 1) := by decide +kernel
theorem dX3_nextNumber_93 : decode cX3_nextNumber 93 = .ok (.putfield 80, 3) := by decide +kernel
theorem dX3_nextNumber_96 : decode cX3_nextNumber 96 = .ok (.aload_n 0, 1) := by decide +kernel
theorem dX3_nextNumber_97 : decode cX3_nextNumber 97 = .ok (.dup, 1) := by decide +kernel
theorem dX3_nextNumber_98 : decode cX3_nextNumber 98 = .ok (.getfield 38, 3) := by decide +kernel
theorem dX3_nextNumber_101 : decode cX3_nextNumber 101 = .ok (.iconst 1, 1) := by decide +kernel
theorem dX3_nextNumber_102 : decode cX3_nextNumber 102 = .ok (.iadd, 1) := by decide +kernel
theorem dX3_nextNumber_103 : decode cX3_nextNumber 103 = .ok (.putfield 38, 3) := by decide +kernel
theorem dX3_nextNumber_106 : decode cX3_nextNumber 106 = .ok (.goto (-91), 3) := by decide +kernel
theorem dX3_nextNumber_109 : decode cX3_nextNumber 109 = .ok (.return_, 1) := by decide +kernel
theorem dX3_isWord_0 : decode cX3_isWord 0 = .ok (.aload_n 0, 1) := by decide +kernel
theorem dX3_isWord_1 : decode cX3_isWord 1 = .ok (.getfield 57, 3) := by decide +kernel
theorem dX3_isWord_4 : decode cX3_isWord 4 = .ok (.iconst 1, 1) := by decide +kernel
theorem dX3_isWord_5 : decode cX3_isWord 5 = .ok (.if_icmp .ne 19, 3) := by decide +kernel
theorem dX3_isWord_8 : decode cX3_isWord 8 = .ok (.aload_n 0, 1) := by decide +kernel
theorem dX3_isWord_9 : decode cX3_isWord 9 = .ok (.getfield 38, 3) := by decide +kernel
theorem dX3_isWord_12 : decode cX3_isWord 12 = .ok (.aload_n 0, 1) := by decide +kernel
theorem dX3_isWord_13 : decode cX3_isWord 13 = .ok (.getfield 60, 3) := by decide +kernel
theorem dX3_isWord_16 : decode cX3_isWord 16 = .ok (.isub, 1) := by decide +kernel
theorem dX3_isWord_17 : decode cX3_isWord 17 = .ok (.aload_n 1, 1) := by decide +kernel
theorem dX3_isWord_18 : decode cX3_isWord 18 = .ok (.invokevirtual 83, 3) := by decide +kernel
theorem dX3_isWord_21 : decode cX3_isWord 21 = .ok (.if_icmp .eq 5, 3) := by decide +kernel
theorem dX3_isWord_24 : decode cX3_isWord 24 = .ok (.iconst 0, 1) := by decide +kernel
theorem dX3_isWord_25 : decode cX3_isWord 25 = .ok (.ireturn, 1) := by decide +kernel
theorem dX3_isWord_26 : decode cX3_isWord 26 = .ok (.iconst 0, 1) := by decide +kernel
theorem dX3_isWord_27 : decode cX3_isWord 27 = .ok (.istore_n 2, 1) := by decide +kernel
theorem dX3_isWord_28 : decode cX3_isWord 28 = .ok (.iload_n 2, 1) := by decide +kernel
theorem dX3_isWord_29 : decode cX3_isWord 29 = .ok (.aload_n 1, 1) := by decide +kernel
theorem dX3_isWord_30 : decode cX3_isWord 30 = .ok (.invokevirtual 83, 3) := by decide +kernel
theorem dX3_isWord_33 : decode cX3_isWord 33 = .ok (.if_icmp .ge 30, 3) := by decide +kernel
theorem dX3_isWord_36 : decode cX3_isWord 36 = .ok (.aload_n 0, 1) := by decide +kernel
theorem dX3_isWord_37 : decode cX3_isWord 37 = .ok (.getfield 9, 3) := by decide +kernel
theorem dX3_isWord_40 : decode cX3_isWord 40 = .ok (.aload_n 0, 1) := by decide +kernel
theorem dX3_isWord_41 : decode cX3_isWord 41 = .ok (.getfield 60, 3) := by decide +kernel
theorem dX3_isWord_44 : decode cX3_isWord 44 = .ok (.iload_n 2, 1) := by decide +kernel
theorem dX3_isWord_45 : decode cX3_isWord 45 = .ok (.iadd, 1) := by decide +kernel
theorem dX3_isWord_46 : decode cX3_isWord 46 = .ok (.baload, 1) := by decide +kernel
theorem dX3_isWord_47 : decode cX3_isWord 47 = .ok (.aload_n 1, 1) := by decide +kernel
theorem dX3_isWord_48 : decode cX3_isWord 48 = .ok (.iload_n 2, 1) := by decide +kernel
theorem dX3_isWord_49 : decode cX3_isWord 49 = .ok (.invokevirtual 86, 3) := by decide +kernel
theorem dX3_isWord_52 : decode cX3_isWord 52 = .ok (.if_icmp .eq 5, 3) := by decide +kernel
theorem dX3_isWord_55 : decode cX3_isWord 55 = .ok (.iconst 0, 1) := by decide +kernel
theorem dX3_isWord_56 : decode cX3_isWord 56 = .ok (.ireturn, 1) := by decide +kernel
theorem dX3_isWord_57 : decode cX3_isWord 57 = .ok (.iinc 2 1, 3) := by decide +kernel
theorem dX3_isWord_60 : decode cX3_isWord 60 = .ok (.goto (-32), 3) := by decide +kernel
theorem dX3_isWord_63 : decode cX3_isWord 63 = .ok (.iconst 1, 1) := by decide +kernel
theorem dX3_isWord_64 : decode cX3_isWord 64 = .ok (.ireturn, 1) := by decide +kernel
theorem dX3_isSign_0 : decode cX3_isSign 0 = .ok (.aload_n 0, 1) := by decide +kernel
theorem dX3_isSign_1 : decode cX3_isSign 1 = .ok (.getfield 57, 3) := by decide +kernel
theorem dX3_isSign_4 : decode cX3_isSign 4 = .ok (.iconst 3, 1) := by decide +kernel
theorem dX3_isSign_5 : decode cX3_isSign 5 = .ok (.if_icmp .ne 20, 3) := by decide +kernel
theorem dX3_isSign_8 : decode cX3_isSign 8 = .ok (.aload_n 0, 1) := by decide +kernel
theorem dX3_isSign_9 : decode cX3_isSign 9 = .ok (.getfield 9, 3) := by decide +kernel
theorem dX3_isSign_12 : decode cX3_isSign 12 = .ok (.aload_n 0, 1) := by decide +kernel
theorem dX3_isSign_13 : decode cX3_isSign 13 = .ok (.getfield 60, 3) := by decide +kernel
theorem dX3_isSign_16 : decode cX3_isSign 16 = .ok (.baload, 1) := by decide +kernel
theorem dX3_isSign_17 : decode cX3_isSign 17 = .ok (.iload_n 1, 1) := by decide +kernel
theorem dX3_isSign_18 : decode cX3_isSign 18 = .ok (.if_icmp .ne 7, 3) := by decide +kernel
theorem dX3_isSign_21 : decode cX3_isSign 21 = .ok (.iconst 1, 1) := by decide +kernel
theorem dX3_isSign_22 : decode cX3_isSign 22 = .ok (.goto 4, 3) := by decide +kernel
theorem dX3_isSign_25 : decode cX3_isSign 25 = .ok (.iconst 0, 1) := by decide +kernel
theorem dX3_isSign_26 : decode cX3_isSign 26 = .ok (.ireturn, 1) := by decide +kernel
theorem dX3_line_0 : decode cX3_line 0 = .ok (.aload_n 0, 1) := by decide +kernel
theorem dX3_line_1 : decode cX3_line 1 = .ok (.ldc 90, 2) := by decide +kernel
theorem dX3_line_3 : decode cX3_line 3 = .ok (.invokevirtual 92, 3) := by decide +kernel
theorem dX3_line_6 : decode cX3_line 6 = .ok (.ifCond .eq 8, 3) := by decide +kernel
theorem dX3_line_9 : decode cX3_line 9 = .ok (.aload_n 0, 1) := by decide +kernel
theorem dX3_line_10 : decode cX3_line 10 = .ok (.invokevirtual 96, 3) := by decide +kernel
theorem dX3_line_13 : decode cX3_line 13 = .ok (.ireturn, 1) := by decide +kernel
theorem dX3_line_14 : decode cX3_line 14 = .ok (.aload_n 0, 1) := by decide +kernel
theorem dX3_line_15 : decode cX3_line 15 = .ok (.ldc 100, 2) := by decide +kernel
theorem dX3_line_17 : decode cX3_line 17 = .ok (.invokevirtual 92, 3) := by decide +kernel
theorem dX3_line_20 : decode cX3_line 20 = .ok (.ifCond .eq 9, 3) := by decide +kernel
theorem dX3_line_23 : decode cX3_line 23 = .ok (.aload_n 0, 1) := by decide +kernel
theorem dX3_line_24 : decode cX3_line 24 = .ok (.iconst 0, 1) := by decide +kernel
theorem dX3_line_25 : decode cX3_line 25 = .ok (.invokevirtual 102, 3) := by decide +kernel
theorem dX3_line_28 : decode cX3_line 28 = .ok (.ireturn, 1) := by decide +kernel
theorem dX3_line_29 : decode cX3_line 29 = .ok (.aload_n 0, 1) := by decide +kernel
theorem dX3_line_30 : decode cX3_line 30 = .ok (.ldc 106, 2) := by decide +kernel
theorem dX3_line_32 : decode cX3_line 32 = .ok (.invokevirtual 92, 3) := by decide +kernel
theorem dX3_line_35 : decode cX3_line 35 = .ok (.ifCond .eq 9, 3) := by decide +kernel
theorem dX3_line_38 : decode cX3_line 38 = .ok (.aload_n 0, 1) := by decide +kernel
theorem dX3_line_39 : decode cX3_line 39 = .ok (.iconst 1, 1) := by decide +kernel
theorem dX3_line_40 : decode cX3_line 40 = .ok (.invokevirtual 102, 3) := by decide +kernel
theorem dX3_line_43 : decode cX3_line 43 = .ok (.ireturn, 1) := by decide +kernel
theorem dX3_line_44 : decode cX3_line 44 = .ok (.aload_n 0, 1) := by decide +kernel
theorem dX3_line_45 : decode cX3_line 45 = .ok (.ldc 108, 2) := by decide +kernel
theorem dX3_line_47 : decode cX3_line 47 = .ok (.invokevirtual 92, 3) := by decide +kernel
theorem dX3_line_50 : decode cX3_line 50 = .ok (.ifCond .eq 8, 3) := by decide +kernel
theorem dX3_line_53 : decode cX3_line 53 = .ok (.aload_n 0, 1) := by decide +kernel
theorem dX3_line_54 : decode cX3_line 54 = .ok (.invokevirtual 110, 3) := by decide +kernel
theorem dX3_line_57 : decode cX3_line 57 = .ok (.ireturn, 1) := by decide +kernel
theorem dX3_line_58 : decode cX3_line 58 = .ok (.aload_n 0, 1) := by decide +kernel
theorem dX3_line_59 : decode cX3_line 59 = .ok (.ldc 113, 2) := by decide +kernel
theorem dX3_line_61 : decode cX3_line 61 = .ok (.invokevirtual 92, 3) := by decide +kernel
theorem dX3_line_64 : decode cX3_line 64 = .ok (.ifCond .eq 8, 3) := by decide +kernel
theorem dX3_line_67 : decode cX3_line 67 = .ok (.aload_n 0, 1) := by decide +kernel
theorem dX3_line_68 : decode cX3_line 68 = .ok (.invokevirtual 115, 3) := by decide +kernel
theorem dX3_line_71 : decode cX3_line 71 = .ok (.ireturn, 1) := by decide +kernel
theorem dX3_line_72 : decode cX3_line 72 = .ok (.aload_n 0, 1) := by decide +kernel
theorem dX3_line_73 : decode cX3_line 73 = .ok (.ldc 118, 2) := by decide +kernel
theorem dX3_line_75 : decode cX3_line 75 = .ok (.invokevirtual 92, 3) := by decide +kernel
theorem dX3_line_78 : decode cX3_line 78 = .ok (.ifCond .eq 15, 3) := by decide +kernel
theorem dX3_line_81 : decode cX3_line 81 = .ok (.aload_n 0, 1) := by decide +kernel
theorem dX3_line_82 : decode cX3_line 82 = .ok (.aload_n 0, 1) := by decide +kernel
theorem dX3_line_83 : decode cX3_line 83 = .ok (.getfield 29, 3) := by decide +kernel
theorem dX3_line_86 : decode cX3_line 86 = .ok (.getfield 120, 3) := by decide +kernel
theorem dX3_line_89 : decode cX3_line 89 = .ok (.invokevirtual 123, 3) := by decide +kernel
theorem dX3_line_92 : decode cX3_line 92 = .ok (.ireturn, 1) := by decide +kernel
theorem dX3_line_93 : decode cX3_line 93 = .ok (.aload_n 0, 1) := by decide +kernel
theorem dX3_line_94 : decode cX3_line 94 = .ok (.ldc 127, 2) := by decide +kernel
theorem dX3_line_96 : decode cX3_line 96 = .ok (.invokevirtual 92, 3) := by decide +kernel
theorem dX3_line_99 : decode cX3_line 99 = .ok (.ifCond .eq 15, 3) := by decide +kernel
theorem dX3_line_102 : decode cX3_line 102 = .ok (.aload_n 0, 1) := by decide +kernel
theorem dX3_line_103 : decode cX3_line 103 = .ok (.aload_n 0, 1) := by decide +kernel
theorem dX3_line_104 : decode cX3_line 104 = .ok (.getfield 29, 3) := by decide +kernel
theorem dX3_line_107 : decode cX3_line 107 = .ok (.getfield 129, 3) := by decide +kernel
theorem dX3_line_110 : decode cX3_line 110 = .ok (.invokevirtual 123, 3) := by decide +kernel
theorem dX3_line_113 : decode cX3_line 113 = .ok (.ireturn, 1) := by decide +kernel
theorem dX3_line_114 : decode cX3_line 114 = .ok (.aload_n 0, 1) := by decide +kernel
theorem dX3_line_115 : decode cX3_line 115 = .ok (.iconst 1, 1) := by decide +kernel
theorem dX3_line_116 : decode cX3_line 116 = .ok (.invokevirtual 131, 3) := by decide +kernel
theorem dX3_line_119 : decode cX3_line 119 = .ok (.ireturn, 1) := by decide +kernel
theorem dX3_lineEnd_0 : decode cX3_lineEnd 0 = .ok (.aload_n 0, 1) := by decide +kernel
theorem dX3_lineEnd_1 : decode cX3_lineEnd 1 = .ok (.bipush 59, 2) := by decide +kernel
theorem dX3_lineEnd_3 : decode cX3_lineEnd 3 = .ok (.invokevirtual 134, 3) := by decide +kernel
theorem dX3_lineEnd_6 : decode cX3_lineEnd 6 = .ok (.ifCond .ne 9, 3) := by decide +kernel
theorem dX3_lineEnd_9 : decode cX3_lineEnd 9 = .ok (.aload_n 0, 1) := by decide +kernel
theorem dX3_lineEnd_10 : decode cX3_lineEnd 10 = .ok (.iconst 1, 1) := by decide +kernel
theorem dX3_lineEnd_11 : decode cX3_lineEnd 11 = .ok (.invokevirtual 131, 3) := by decide +kernel
theorem dX3_lineEnd_14 : decode cX3_lineEnd 14 = .ok (.ireturn, 1) := by decide +kernel
theorem dX3_lineEnd_15 : decode cX3_lineEnd 15 = .ok (.aload_n 0, 1) := by decide +kernel
theorem dX3_lineEnd_16 : decode cX3_lineEnd 16 = .ok (.invokevirtual 54, 3) := by decide +kernel
theorem dX3_lineEnd_19 : decode cX3_lineEnd 19 = .ok (.iconst 1, 1) := by decide +kernel
theorem dX3_lineEnd_20 : decode cX3_lineEnd 20 = .ok (.ireturn, 1) := by decide +kernel
theorem dX3_nextIsNumber_0 : decode cX3_nextIsNumber 0 = .ok (.aload_n 0, 1) := by decide +kernel
theorem dX3_nextIsNumber_1 : decode cX3_nextIsNumber 1 = .ok (.invokevirtual 54, 3) := by decide +kernel
theorem dX3_nextIsNumber_4 : decode cX3_nextIsNumber 4 = .ok (.aload_n 0, 1) := by decide +kernel
theorem dX3_nextIsNumber_5 : decode cX3_nextIsNumber 5 = .ok (.invokevirtual 138, 3) := by decide +kernel
theorem dX3_nextIsNumber_8 : decode cX3_nextIsNumber 8 = .ok (.ireturn, 1) := by decide +kernel
theorem dX3_isFitNumber_0 : decode cX3_isFitNumber 0 = .ok (.aload_n 0, 1) := by decide +kernel
theorem dX3_isFitNumber_1 : decode cX3_isFitNumber 1 = .ok (.getfield 57, 3) := by decide +kernel
theorem dX3_isFitNumber_4 : decode cX3_isFitNumber 4 = .ok (.iconst 2, 1) := by decide +kernel
theorem dX3_isFitNumber_5 : decode cX3_isFitNumber 5 = .ok (.if_icmp .eq 9, 3) := by decide +kernel
theorem dX3_isFitNumber_8 : decode cX3_isFitNumber 8 = .ok (.aload_n 0, 1) := by decide +kernel
theorem dX3_isFitNumber_9 : decode cX3_isFitNumber 9 = .ok (.iconst 1, 1) := by decide +kernel
theorem dX3_isFitNumber_10 : decode cX3_isFitNumber 10 = .ok (.invokevirtual 131, 3) := by decide +kernel
theorem dX3_isFitNumber_13 : decode cX3_isFitNumber 13 = .ok (.ireturn, 1) := by decide +kernel
theorem dX3_isFitNumber_14 : decode cX3_isFitNumber 14 = .ok (.aload_n 0, 1) := by decide +kernel
theorem dX3_isFitNumber_15 : decode cX3_isFitNumber 15 = .ok (.getfield 80, 3) := by decide +kernel
theorem dX3_isFitNumber_18 : decode cX3_isFitNumber 18 = .ok (.iconst 4, 1) := by decide +kernel
theorem dX3_isFitNumber_19 : decode cX3_isFitNumber 19 = .ok (.if_icmp .le 11, 3) := by decide +kernel
theorem dX3_isFitNumber_22 : decode cX3_isFitNumber 22 = .ok (.aload_n 0, 1) := by decide +kernel
theorem dX3_isFitNumber_23 : decode cX3_isFitNumber 23 = .ok (.iconst 2, 1) := by decide +kernel
theorem dX3_isFitNumber_24 : decode cX3_isFitNumber 24 = .ok (.invokevirtual 131, 3) := by decide +kernel
theorem dX3_isFitNumber_27 : decode cX3_isFitNumber 27 = .ok (.ifCond .eq 7, 3) := by decide +kernel
theorem dX3_isFitNumber_30 : decode cX3_isFitNumber 30 = .ok (.iconst 1, 1) := by decide +kernel
theorem dX3_isFitNumber_31 : decode cX3_isFitNumber 31 = .ok (.goto 4, 3) := by decide +kernel
theorem dX3_isFitNumber_34 : decode cX3_isFitNumber 34 = .ok (.iconst 0, 1) := by decide +kernel
theorem dX3_isFitNumber_35 : decode cX3_isFitNumber 35 = .ok (.ireturn, 1) := by decide +kernel
theorem dX3_nextIsWithin_0 : decode cX3_nextIsWithin 0 = .ok (.aload_n 0, 1) := by decide +kernel
theorem dX3_nextIsWithin_1 : decode cX3_nextIsWithin 1 = .ok (.invokevirtual 141, 3) := by decide +kernel
theorem dX3_nextIsWithin_4 : decode cX3_nextIsWithin 4 = .ok (.ifCond .eq 31, 3) := by decide +kernel
theorem dX3_nextIsWithin_7 : decode cX3_nextIsWithin 7 = .ok (.aload_n 0, 1) := by decide +kernel
theorem dX3_nextIsWithin_8 : decode cX3_nextIsWithin 8 = .ok (.getfield 77, 3) := by decide +kernel
theorem dX3_nextIsWithin_11 : decode cX3_nextIsWithin 11 = .ok (.iload_n 1, 1) := by decide +kernel
theorem dX3_nextIsWithin_12 : decode cX3_nextIsWithin 12 = .ok (.if_icmp .lt 11, 3) := by decide +kernel
theorem dX3_nextIsWithin_15 : decode cX3_nextIsWithin 15 = .ok (.aload_n 0, 1) := by decide +kernel
theorem dX3_nextIsWithin_16 : decode cX3_nextIsWithin 16 = .ok (.getfield 77, 3) := by decide +kernel
theorem dX3_nextIsWithin_19 : decode cX3_nextIsWithin 19 = .ok (.iload_n 2, 1) := by decide +kernel
theorem dX3_nextIsWithin_20 : decode cX3_nextIsWithin 20 = .ok (.if_icmp .le 11, 3) := by decide +kernel
theorem dX3_nextIsWithin_23 : decode cX3_nextIsWithin 23 = .ok (.aload_n 0, 1) := by decide +kernel
theorem dX3_nextIsWithin_24 : decode cX3_nextIsWithin 24 = .ok (.iconst 2, 1) := by decide +kernel
theorem dX3_nextIsWithin_25 : decode cX3_nextIsWithin 25 = .ok (.invokevirtual 131, 3) := by decide +kernel
theorem dX3_nextIsWithin_28 : decode cX3_nextIsWithin 28 = .ok (.ifCond .eq 7, 3) := by decide +kernel
theorem dX3_nextIsWithin_31 : decode cX3_nextIsWithin 31 = .ok (.iconst 1, 1) := by decide +kernel
theorem dX3_nextIsWithin_32 : decode cX3_nextIsWithin 32 = .ok (.goto 4, 3) := by decide +kernel
theorem dX3_nextIsWithin_35 : decode cX3_nextIsWithin 35 = .ok (.iconst 0, 1) := by decide +kernel
theorem dX3_nextIsWithin_36 : decode cX3_nextIsWithin 36 = .ok (.ireturn, 1) := by decide +kernel
theorem dX3_placesLine_0 : decode cX3_placesLine 0 = .ok (.aload_n 0, 1) := by decide +kernel
theorem dX3_placesLine_1 : decode cX3_placesLine 1 = .ok (.getfield 29, 3) := by decide +kernel
theorem dX3_placesLine_4 : decode cX3_placesLine 4 = .ok (.getfield 144, 3) := by decide +kernel
theorem dX3_placesLine_7 : decode cX3_placesLine 7 = .ok (.ifCond .le 9, 3) := by decide +kernel
theorem dX3_placesLine_10 : decode cX3_placesLine 10 = .ok (.aload_n 0, 1) := by decide +kernel
theorem dX3_placesLine_11 : decode cX3_placesLine 11 = .ok (.iconst 4, 1) := by decide +kernel
theorem dX3_placesLine_12 : decode cX3_placesLine 12 = .ok (.invokevirtual 131, 3) := by decide +kernel
theorem dX3_placesLine_15 : decode cX3_placesLine 15 = .ok (.ireturn, 1) := by decide +kernel
theorem dX3_placesLine_16 : decode cX3_placesLine 16 = .ok (.aload_n 0, 1) := by decide +kernel
theorem dX3_placesLine_17 : decode cX3_placesLine 17 = .ok (.getfield 41, 3) := by decide +kernel
theorem dX3_placesLine_20 : decode cX3_placesLine 20 = .ok (.ifCond .eq 9, 3) := by decide +kernel
theorem dX3_placesLine_23 : decode cX3_placesLine 23 = .ok (.aload_n 0, 1) := by decide +kernel
theorem dX3_placesLine_24 : decode cX3_placesLine 24 = .ok (.iconst 5, 1) := by decide +kernel
theorem dX3_placesLine_25 : decode cX3_placesLine 25 = .ok (.invokevirtual 131, 3) := by decide +kernel
theorem dX3_placesLine_28 : decode cX3_placesLine 28 = .ok (.ireturn, 1) := by decide +kernel
theorem dX3_placesLine_29 : decode cX3_placesLine 29 = .ok (.aload_n 0, 1) := by decide +kernel
theorem dX3_placesLine_30 : decode cX3_placesLine 30 = .ok (.iconst 2, 1) := by decide +kernel
theorem dX3_placesLine_31 : decode cX3_placesLine 31 = .ok (.bipush 6, 2) := by decide +kernel
theorem dX3_placesLine_33 : decode cX3_placesLine 33 = .ok (.invokevirtual 147, 3) := by decide +kernel
theorem dX3_placesLine_36 : decode cX3_placesLine 36 = .ok (.ifCond .ne 5, 3) := by decide +kernel
theorem dX3_placesLine_39 : decode cX3_placesLine 39 = .ok (.iconst 0, 1) := by decide +kernel
theorem dX3_placesLine_40 : decode cX3_placesLine 40 = .ok (.ireturn, 1) := by decide +kernel
theorem dX3_placesLine_41 : decode cX3_placesLine 41 = .ok (.aload_n 0, 1) := by decide +kernel
theorem dX3_placesLine_42 : decode cX3_placesLine 42 = .ok (.getfield 29, 3) := by decide +kernel
theorem dX3_placesLine_45 : decode cX3_placesLine 45 = .ok (.aload_n 0, 1) := by decide +kernel
theorem dX3_placesLine_46 : decode cX3_placesLine 46 = .ok (.getfield 77, 3) := by decide +kernel
theorem dX3_placesLine_49 : decode cX3_placesLine 49 = .ok (.putfield 151, 3) := by decide +kernel
theorem dX3_placesLine_52 : decode cX3_placesLine 52 = .ok (.aload_n 0, 1) := by decide +kernel
theorem dX3_placesLine_53 : decode cX3_placesLine 53 = .ok (.iconst 1, 1) := by decide +kernel
theorem dX3_placesLine_54 : decode cX3_placesLine 54 = .ok (.putfield 41, 3) := by decide +kernel
theorem dX3_placesLine_57 : decode cX3_placesLine 57 = .ok (.aload_n 0, 1) := by decide +kernel
theorem dX3_placesLine_58 : decode cX3_placesLine 58 = .ok (.invokevirtual 54, 3) := by decide +kernel
theorem dX3_placesLine_61 : decode cX3_placesLine 61 = .ok (.aload_n 0, 1) := by decide +kernel
theorem dX3_placesLine_62 : decode cX3_placesLine 62 = .ok (.invokevirtual 153, 3) := by decide +kernel
theorem dX3_placesLine_65 : decode cX3_placesLine 65 = .ok (.ireturn, 1) := by decide +kernel
theorem dX3_termLine_0 : decode cX3_termLine 0 = .ok (.aload_n 0, 1) := by decide +kernel
theorem dX3_termLine_1 : decode cX3_termLine 1 = .ok (.getfield 45, 3) := by decide +kernel
theorem dX3_termLine_4 : decode cX3_termLine 4 = .ok (.ifCond .eq 9, 3) := by decide +kernel
theorem dX3_termLine_7 : decode cX3_termLine 7 = .ok (.aload_n 0, 1) := by decide +kernel
theorem dX3_termLine_8 : decode cX3_termLine 8 = .ok (.iconst 5, 1) := by decide +kernel
theorem dX3_termLine_9 : decode cX3_termLine 9 = .ok (.invokevirtual 131, 3) := by decide +kernel
theorem dX3_termLine_12 : decode cX3_termLine 12 = .ok (.ireturn, 1) := by decide +kernel
theorem dX3_termLine_13 : decode cX3_termLine 13 = .ok (.aload_n 0, 1) := by decide +kernel
theorem dX3_termLine_14 : decode cX3_termLine 14 = .ok (.iconst 1, 1) := by decide +kernel
theorem dX3_termLine_15 : decode cX3_termLine 15 = .ok (.bipush 99, 2) := by decide +kernel
theorem dX3_termLine_17 : decode cX3_termLine 17 = .ok (.invokevirtual 147, 3) := by decide +kernel
theorem dX3_termLine_20 : decode cX3_termLine 20 = .ok (.ifCond .ne 5, 3) := by decide +kernel
theorem dX3_termLine_23 : decode cX3_termLine 23 = .ok (.iconst 0, 1) := by decide +kernel
theorem dX3_termLine_24 : decode cX3_termLine 24 = .ok (.ireturn, 1) := by decide +kernel
theorem dX3_termLine_25 : decode cX3_termLine 25 = .ok (.aload_n 0, 1) := by decide +kernel
theorem dX3_termLine_26 : decode cX3_termLine 26 = .ok (.getfield 29, 3) := by decide +kernel
theorem dX3_termLine_29 : decode cX3_termLine 29 = .ok (.aload_n 0, 1) := by decide +kernel
theorem dX3_termLine_30 : decode cX3_termLine 30 = .ok (.getfield 77, 3) := by decide +kernel
theorem dX3_termLine_33 : decode cX3_termLine 33 = .ok (.putfield 156, 3) := by decide +kernel
theorem dX3_termLine_36 : decode cX3_termLine 36 = .ok (.aload_n 0, 1) := by decide +kernel
theorem dX3_termLine_37 : decode cX3_termLine 37 = .ok (.iconst 1, 1) := by decide +kernel
theorem dX3_termLine_38 : decode cX3_termLine 38 = .ok (.putfield 45, 3) := by decide +kernel
theorem dX3_termLine_41 : decode cX3_termLine 41 = .ok (.aload_n 0, 1) := by decide +kernel
theorem dX3_termLine_42 : decode cX3_termLine 42 = .ok (.invokevirtual 54, 3) := by decide +kernel
theorem dX3_termLine_45 : decode cX3_termLine 45 = .ok (.aload_n 0, 1) := by decide +kernel
theorem dX3_termLine_46 : decode cX3_termLine 46 = .ok (.invokevirtual 153, 3) := by decide +kernel
theorem dX3_termLine_49 : decode cX3_termLine 49 = .ok (.ireturn, 1) := by decide +kernel
theorem dX3_personLine_0 : decode cX3_personLine 0 = .ok (.aload_n 0, 1) := by decide +kernel
theorem dX3_personLine_1 : decode cX3_personLine 1 = .ok (.getfield 29, 3) := by decide +kernel
theorem dX3_personLine_4 : decode cX3_personLine 4 = .ok (.getfield 144, 3) := by decide +kernel
theorem dX3_personLine_7 : decode cX3_personLine 7 = .ok (.istore_n 2, 1) := by decide +kernel
theorem dX3_personLine_8 : decode cX3_personLine 8 = .ok (.iload_n 2, 1) := by decide +kernel
theorem dX3_personLine_9 : decode cX3_personLine 9 = .ok (.bipush 8, 2) := by decide +kernel
theorem dX3_personLine_11 : decode cX3_personLine 11 = .ok (.if_icmp .lt 9, 3) := by decide +kernel
theorem dX3_personLine_14 : decode cX3_personLine 14 = .ok (.aload_n 0, 1) := by decide +kernel
theorem dX3_personLine_15 : decode cX3_personLine 15 = .ok (.iconst 2, 1) := by decide +kernel
theorem dX3_personLine_16 : decode cX3_personLine 16 = .ok (.invokevirtual 131, 3) := by decide +kernel
theorem dX3_personLine_19 : decode cX3_personLine 19 = .ok (.ireturn, 1) := by decide +kernel
theorem dX3_personLine_20 : decode cX3_personLine 20 = .ok (.aload_n 0, 1) := by decide +kernel
theorem dX3_personLine_21 : decode cX3_personLine 21 = .ok (.iconst 0, 1) := by decide +kernel
theorem dX3_personLine_22 : decode cX3_personLine 22 = .ok (.bipush 9, 2) := by decide +kernel
theorem dX3_personLine_24 : decode cX3_personLine 24 = .ok (.invokevirtual 147, 3) := by decide +kernel
theorem dX3_personLine_27 : decode cX3_personLine 27 = .ok (.ifCond .ne 5, 3) := by decide +kernel
theorem dX3_personLine_30 : decode cX3_personLine 30 = .ok (.iconst 0, 1) := by decide +kernel
theorem dX3_personLine_31 : decode cX3_personLine 31 = .ok (.ireturn, 1) := by decide +kernel
theorem dX3_personLine_32 : decode cX3_personLine 32 = .ok (.aload_n 0, 1) := by decide +kernel
theorem dX3_personLine_33 : decode cX3_personLine 33 = .ok (.getfield 29, 3) := by decide +kernel
theorem dX3_personLine_36 : decode cX3_personLine 36 = .ok (.getfield 158, 3) := by decide +kernel
theorem dX3_personLine_39 : decode cX3_personLine 39 = .ok (.iload_n 2, 1) := by decide +kernel
theorem dX3_personLine_40 : decode cX3_personLine 40 = .ok (.aload_n 0, 1) := by decide +kernel
theorem dX3_personLine_41 : decode cX3_personLine 41 = .ok (.getfield 77, 3) := by decide +kernel
theorem dX3_personLine_44 : decode cX3_personLine 44 = .ok (.iastore, 1) := by decide +kernel
theorem dX3_personLine_45 : decode cX3_personLine 45 = .ok (.aload_n 0, 1) := by decide +kernel
theorem dX3_personLine_46 : decode cX3_personLine 46 = .ok (.getfield 29, 3) := by decide +kernel
theorem dX3_personLine_49 : decode cX3_personLine 49 = .ok (.getfield 161, 3) := by decide +kernel
theorem dX3_personLine_52 : decode cX3_personLine 52 = .ok (.iload_n 2, 1) := by decide +kernel
theorem dX3_personLine_53 : decode cX3_personLine 53 = .ok (.iload_n 1, 1) := by decide +kernel
theorem dX3_personLine_54 : decode cX3_personLine 54 = .ok (.iastore, 1) := by decide +kernel
theorem dX3_personLine_55 : decode cX3_personLine 55 = .ok (.aload_n 0, 1) := by decide +kernel
theorem dX3_personLine_56 : decode cX3_personLine 56 = .ok (.invokevirtual 54, 3) := by decide +kernel
theorem dX3_personLine_59 : decode cX3_personLine 59 = .ok (.iconst 0, 1) := by decide +kernel
theorem dX3_personLine_60 : decode cX3_personLine 60 = .ok (.istore_n 3, 1) := by decide +kernel
theorem dX3_personLine_61 : decode cX3_personLine 61 = .ok (.iconst 0, 1) := by decide +kernel
theorem dX3_personLine_62 : decode cX3_personLine 62 = .ok (.istore 4, 2) := by decide +kernel
theorem dX3_personLine_64 : decode cX3_personLine 64 = .ok (.iload 4, 2) := by decide +kernel
theorem dX3_personLine_66 : decode cX3_personLine 66 = .ok (.bipush 6, 2) := by decide +kernel
theorem dX3_personLine_68 : decode cX3_personLine 68 = .ok (.if_icmp .gt 57, 3) := by decide +kernel
theorem dX3_personLine_71 : decode cX3_personLine 71 = .ok (.iload 4, 2) := by decide +kernel
theorem dX3_personLine_73 : decode cX3_personLine 73 = .ok (.ifCond .eq 11, 3) := by decide +kernel
theorem dX3_personLine_76 : decode cX3_personLine 76 = .ok (.aload_n 0, 1) := by decide +kernel
theorem dX3_personLine_77 : decode cX3_personLine 77 = .ok (.getfield 57, 3) := by decide +kernel
theorem dX3_personLine_80 : decode cX3_personLine 80 = .ok (.iconst 2, 1) := by decide +kernel
theorem dX3_personLine_81 : decode cX3_personLine 81 = .ok (.if_icmp .ne 44, 3) := by decide +kernel
theorem dX3_personLine_84 : decode cX3_personLine 84 = .ok (.aload_n 0, 1) := by decide +kernel
theorem dX3_personLine_85 : decode cX3_personLine 85 = .ok (.iload_n 3, 1) := by decide +kernel
theorem dX3_personLine_86 : decode cX3_personLine 86 = .ok (.invokevirtual 163, 3) := by decide +kernel
theorem dX3_personLine_89 : decode cX3_personLine 89 = .ok (.ifCond .ne 5, 3) := by decide +kernel
theorem dX3_personLine_92 : decode cX3_personLine 92 = .ok (.iconst 0, 1) := by decide +kernel
theorem dX3_personLine_93 : decode cX3_personLine 93 = .ok (.ireturn, 1) := by decide +kernel
theorem dX3_personLine_94 : decode cX3_personLine 94 = .ok (.aload_n 0, 1) := by decide +kernel
theorem dX3_personLine_95 : decode cX3_personLine 95 = .ok (.getfield 29, 3) := by decide +kernel
theorem dX3_personLine_98 : decode cX3_personLine 98 = .ok (.getfield 166, 3) := by decide +kernel
theorem dX3_personLine_101 : decode cX3_personLine 101 = .ok (.iload_n 2, 1) := by decide +kernel
theorem dX3_personLine_102 : decode cX3_personLine 102 = .ok (.bipush 6, 2) := by decide +kernel
theorem dX3_personLine_104 : decode cX3_personLine 104 = .ok (.imul, 1) := by decide +kernel
theorem dX3_personLine_105 : decode cX3_personLine 105 = .ok (.iload_n 3, 1) := by decide +kernel
theorem dX3_personLine_106 : decode cX3_personLine 106 = .ok (.iadd, 1) := by decide +kernel
theorem dX3_personLine_107 : decode cX3_personLine 107 = .ok (.aload_n 0, 1) := by decide +kernel
theorem dX3_personLine_108 : decode cX3_personLine 108 = .ok (.getfield 77, 3) := by decide +kernel
theorem dX3_personLine_111 : decode cX3_personLine 111 = .ok (.iastore, 1) := by decide +kernel
theorem dX3_personLine_112 : decode cX3_personLine 112 = .ok (.iinc 3 1, 3) := by decide +kernel
theorem dX3_personLine_115 : decode cX3_personLine 115 = .ok (.aload_n 0, 1) := by decide +kernel
theorem dX3_personLine_116 : decode cX3_personLine 116 = .ok (.invokevirtual 54, 3) := by decide +kernel
theorem dX3_personLine_119 : decode cX3_personLine 119 = .ok (.iinc 4 1, 3) := by decide +kernel
theorem dX3_personLine_122 : decode cX3_personLine 122 = .ok (.goto (-58), 3) := by decide +kernel
theorem dX3_personLine_125 : decode cX3_personLine 125 = .ok (.aload_n 0, 1) := by decide +kernel
theorem dX3_personLine_126 : decode cX3_personLine 126 = .ok (.getfield 29, 3) := by decide +kernel
theorem dX3_personLine_129 : decode cX3_personLine 129 = .ok (.getfield 169, 3) := by decide +kernel
theorem dX3_personLine_132 : decode cX3_personLine 132 = .ok (.iload_n 2, 1) := by decide +kernel
theorem dX3_personLine_133 : decode cX3_personLine 133 = .ok (.iload_n 3, 1) := by decide +kernel
theorem dX3_personLine_134 : decode cX3_personLine 134 = .ok (.iastore, 1) := by decide +kernel
theorem dX3_personLine_135 : decode cX3_personLine 135 = .ok (.aload_n 0, 1) := by decide +kernel
theorem dX3_personLine_136 : decode cX3_personLine 136 = .ok (.getfield 29, 3) := by decide +kernel
theorem dX3_personLine_139 : decode cX3_personLine 139 = .ok (.dup, 1) := by decide +kernel
theorem dX3_personLine_140 : decode cX3_personLine 140 = .ok (.getfield 144, 3) := by decide +kernel
theorem dX3_personLine_143 : decode cX3_personLine 143 = .ok (.iconst 1, 1) := by decide +kernel
theorem dX3_personLine_144 : decode cX3_personLine 144 = .ok (.iadd, 1) := by decide +kernel
theorem dX3_personLine_145 : decode cX3_personLine 145 = .ok (.putfield 144, 3) := by decide +kernel
theorem dX3_personLine_148 : decode cX3_personLine 148 = .ok (.aload_n 0, 1) := by decide +kernel
theorem dX3_personLine_149 : decode cX3_personLine 149 = .ok (.invokevirtual 153, 3) := by decide +kernel
theorem dX3_personLine_152 : decode cX3_personLine 152 = .ok (.ireturn, 1) := by decide +kernel
theorem dX3_isFitPlace_0 : decode cX3_isFitPlace 0 = .ok (.aload_n 0, 1) := by decide +kernel
theorem dX3_isFitPlace_1 : decode cX3_isFitPlace 1 = .ok (.invokevirtual 138, 3) := by decide +kernel
theorem dX3_isFitPlace_4 : decode cX3_isFitPlace 4 = .ok (.ifCond .ne 5, 3) := by decide +kernel
theorem dX3_isFitPlace_7 : decode cX3_isFitPlace 7 = .ok (.iconst 0, 1) := by decide +kernel
theorem dX3_isFitPlace_8 : decode cX3_isFitPlace 8 = .ok (.ireturn, 1) := by decide +kernel
theorem dX3_isFitPlace_9 : decode cX3_isFitPlace 9 = .ok (.iload_n 1, 1) := by decide +kernel
theorem dX3_isFitPlace_10 : decode cX3_isFitPlace 10 = .ok (.bipush 6, 2) := by decide +kernel
theorem dX3_isFitPlace_12 : decode cX3_isFitPlace 12 = .ok (.if_icmp .lt 9, 3) := by decide +kernel
theorem dX3_isFitPlace_15 : decode cX3_isFitPlace 15 = .ok (.aload_n 0, 1) := by decide +kernel
theorem dX3_isFitPlace_16 : decode cX3_isFitPlace 16 = .ok (.iconst 2, 1) := by decide +kernel
theorem dX3_isFitPlace_17 : decode cX3_isFitPlace 17 = .ok (.invokevirtual 131, 3) := by decide +kernel
theorem dX3_isFitPlace_20 : decode cX3_isFitPlace 20 = .ok (.ireturn, 1) := by decide +kernel
theorem dX3_isFitPlace_21 : decode cX3_isFitPlace 21 = .ok (.aload_n 0, 1) := by decide +kernel
theorem dX3_isFitPlace_22 : decode cX3_isFitPlace 22 = .ok (.getfield 77, 3) := by decide +kernel
theorem dX3_isFitPlace_25 : decode cX3_isFitPlace 25 = .ok (.aload_n 0, 1) := by decide +kernel
theorem dX3_isFitPlace_26 : decode cX3_isFitPlace 26 = .ok (.getfield 29, 3) := by decide +kernel
theorem dX3_isFitPlace_29 : decode cX3_isFitPlace 29 = .ok (.getfield 151, 3) := by decide +kernel
theorem dX3_isFitPlace_32 : decode cX3_isFitPlace 32 = .ok (.if_icmp .lt 11, 3) := by decide +kernel
theorem dX3_isFitPlace_35 : decode cX3_isFitPlace 35 = .ok (.aload_n 0, 1) := by decide +kernel
theorem dX3_isFitPlace_36 : decode cX3_isFitPlace 36 = .ok (.iconst 3, 1) := by decide +kernel
theorem dX3_isFitPlace_37 : decode cX3_isFitPlace 37 = .ok (.invokevirtual 131, 3) := by decide +kernel
theorem dX3_isFitPlace_40 : decode cX3_isFitPlace 40 = .ok (.ifCond .eq 7, 3) := by decide +kernel
theorem dX3_isFitPlace_43 : decode cX3_isFitPlace 43 = .ok (.iconst 1, 1) := by decide +kernel
theorem dX3_isFitPlace_44 : decode cX3_isFitPlace 44 = .ok (.goto 4, 3) := by decide +kernel
theorem dX3_isFitPlace_47 : decode cX3_isFitPlace 47 = .ok (.iconst 0, 1) := by decide +kernel
theorem dX3_isFitPlace_48 : decode cX3_isFitPlace 48 = .ok (.ireturn, 1) := by decide +kernel
theorem dX3_nextIsPerson_0 : decode cX3_nextIsPerson 0 = .ok (.aload_n 0, 1) := by decide +kernel
theorem dX3_nextIsPerson_1 : decode cX3_nextIsPerson 1 = .ok (.invokevirtual 141, 3) := by decide +kernel
theorem dX3_nextIsPerson_4 : decode cX3_nextIsPerson 4 = .ok (.ifCond .eq 29, 3) := by decide +kernel
theorem dX3_nextIsPerson_7 : decode cX3_nextIsPerson 7 = .ok (.aload_n 0, 1) := by decide +kernel
theorem dX3_nextIsPerson_8 : decode cX3_nextIsPerson 8 = .ok (.getfield 77, 3) := by decide +kernel
theorem dX3_nextIsPerson_11 : decode cX3_nextIsPerson 11 = .ok (.aload_n 0, 1) := by decide +kernel
theorem dX3_nextIsPerson_12 : decode cX3_nextIsPerson 12 = .ok (.getfield 29, 3) := by decide +kernel
theorem dX3_nextIsPerson_15 : decode cX3_nextIsPerson 15 = .ok (.getfield 144, 3) := by decide +kernel
theorem dX3_nextIsPerson_18 : decode cX3_nextIsPerson 18 = .ok (.if_icmp .lt 11, 3) := by decide +kernel
theorem dX3_nextIsPerson_21 : decode cX3_nextIsPerson 21 = .ok (.aload_n 0, 1) := by decide +kernel
theorem dX3_nextIsPerson_22 : decode cX3_nextIsPerson 22 = .ok (.iconst 3, 1) := by decide +kernel
theorem dX3_nextIsPerson_23 : decode cX3_nextIsPerson 23 = .ok (.invokevirtual 131, 3) := by decide +kernel
theorem dX3_nextIsPerson_26 : decode cX3_nextIsPerson 26 = .ok (.ifCond .eq 7, 3) := by decide +kernel
theorem dX3_nextIsPerson_29 : decode cX3_nextIsPerson 29 = .ok (.iconst 1, 1) := by decide +kernel
theorem dX3_nextIsPerson_30 : decode cX3_nextIsPerson 30 = .ok (.goto 4, 3) := by decide +kernel
theorem dX3_nextIsPerson_33 : decode cX3_nextIsPerson 33 = .ok (.iconst 0, 1) := by decide +kernel
theorem dX3_nextIsPerson_34 : decode cX3_nextIsPerson 34 = .ok (.ireturn, 1) := by decide +kernel
theorem dX3_thingLine_0 : decode cX3_thingLine 0 = .ok (.aload_n 0, 1) := by decide +kernel
theorem dX3_thingLine_1 : decode cX3_thingLine 1 = .ok (.getfield 29, 3) := by decide +kernel
theorem dX3_thingLine_4 : decode cX3_thingLine 4 = .ok (.getfield 172, 3) := by decide +kernel
theorem dX3_thingLine_7 : decode cX3_thingLine 7 = .ok (.istore_n 1, 1) := by decide +kernel
theorem dX3_thingLine_8 : decode cX3_thingLine 8 = .ok (.iload_n 1, 1) := by decide +kernel
theorem dX3_thingLine_9 : decode cX3_thingLine 9 = .ok (.bipush 10, 2) := by decide +kernel
theorem dX3_thingLine_11 : decode cX3_thingLine 11 = .ok (.if_icmp .lt 9, 3) := by decide +kernel
theorem dX3_thingLine_14 : decode cX3_thingLine 14 = .ok (.aload_n 0, 1) := by decide +kernel
theorem dX3_thingLine_15 : decode cX3_thingLine 15 = .ok (.iconst 2, 1) := by decide +kernel
theorem dX3_thingLine_16 : decode cX3_thingLine 16 = .ok (.invokevirtual 131, 3) := by decide +kernel
theorem dX3_thingLine_19 : decode cX3_thingLine 19 = .ok (.ireturn, 1) := by decide +kernel
theorem dX3_thingLine_20 : decode cX3_thingLine 20 = .ok (.aload_n 0, 1) := by decide +kernel
theorem dX3_thingLine_21 : decode cX3_thingLine 21 = .ok (.iconst 1, 1) := by decide +kernel
theorem dX3_thingLine_22 : decode cX3_thingLine 22 = .ok (.bipush 30, 2) := by decide +kernel
theorem dX3_thingLine_24 : decode cX3_thingLine 24 = .ok (.invokevirtual 147, 3) := by decide +kernel
theorem dX3_thingLine_27 : decode cX3_thingLine 27 = .ok (.ifCond .ne 5, 3) := by decide +kernel
theorem dX3_thingLine_30 : decode cX3_thingLine 30 = .ok (.iconst 0, 1) := by decide +kernel
theorem dX3_thingLine_31 : decode cX3_thingLine 31 = .ok (.ireturn, 1) := by decide +kernel
theorem dX3_thingLine_32 : decode cX3_thingLine 32 = .ok (.aload_n 0, 1) := by decide +kernel
theorem dX3_thingLine_33 : decode cX3_thingLine 33 = .ok (.getfield 29, 3) := by decide +kernel
theorem dX3_thingLine_36 : decode cX3_thingLine 36 = .ok (.getfield 175, 3) := by decide +kernel
theorem dX3_thingLine_39 : decode cX3_thingLine 39 = .ok (.iload_n 1, 1) := by decide +kernel
theorem dX3_thingLine_40 : decode cX3_thingLine 40 = .ok (.aload_n 0, 1) := by decide +kernel
theorem dX3_thingLine_41 : decode cX3_thingLine 41 = .ok (.getfield 77, 3) := by decide +kernel
theorem dX3_thingLine_44 : decode cX3_thingLine 44 = .ok (.iastore, 1) := by decide +kernel
theorem dX3_thingLine_45 : decode cX3_thingLine 45 = .ok (.aload_n 0, 1) := by decide +kernel
theorem dX3_thingLine_46 : decode cX3_thingLine 46 = .ok (.iconst 0, 1) := by decide +kernel
theorem dX3_thingLine_47 : decode cX3_thingLine 47 = .ok (.bipush 9, 2) := by decide +kernel
theorem dX3_thingLine_49 : decode cX3_thingLine 49 = .ok (.invokevirtual 147, 3) := by decide +kernel
theorem dX3_thingLine_52 : decode cX3_thingLine 52 = .ok (.ifCond .ne 5, 3) := by decide +kernel
theorem dX3_thingLine_55 : decode cX3_thingLine 55 = .ok (.iconst 0, 1) := by decide +kernel
theorem dX3_thingLine_56 : decode cX3_thingLine 56 = .ok (.ireturn, 1) := by decide +kernel
theorem dX3_thingLine_57 : decode cX3_thingLine 57 = .ok (.aload_n 0, 1) := by decide +kernel
theorem dX3_thingLine_58 : decode cX3_thingLine 58 = .ok (.getfield 29, 3) := by decide +kernel
theorem dX3_thingLine_61 : decode cX3_thingLine 61 = .ok (.getfield 178, 3) := by decide +kernel
theorem dX3_thingLine_64 : decode cX3_thingLine 64 = .ok (.iload_n 1, 1) := by decide +kernel
theorem dX3_thingLine_65 : decode cX3_thingLine 65 = .ok (.aload_n 0, 1) := by decide +kernel
theorem dX3_thingLine_66 : decode cX3_thingLine 66 = .ok (.getfield 77, 3) := by decide +kernel
theorem dX3_thingLine_69 : decode cX3_thingLine 69 = .ok (.iastore, 1) := by decide +kernel
theorem dX3_thingLine_70 : decode cX3_thingLine 70 = .ok (.aload_n 0, 1) := by decide +kernel
theorem dX3_thingLine_71 : decode cX3_thingLine 71 = .ok (.invokevirtual 181, 3) := by decide +kernel
theorem dX3_thingLine_74 : decode cX3_thingLine 74 = .ok (.ifCond .ne 5, 3) := by decide +kernel
theorem dX3_thingLine_77 : decode cX3_thingLine 77 = .ok (.iconst 0, 1) := by decide +kernel
theorem dX3_thingLine_78 : decode cX3_thingLine 78 = .ok (.ireturn, 1) := by decide +kernel
theorem dX3_thingLine_79 : decode cX3_thingLine 79 = .ok (.aload_n 0, 1) := by decide +kernel
theorem dX3_thingLine_80 : decode cX3_thingLine 80 = .ok (.getfield 29, 3) := by decide +kernel
theorem dX3_thingLine_83 : decode cX3_thingLine 83 = .ok (.getfield 184, 3) := by decide +kernel
theorem dX3_thingLine_86 : decode cX3_thingLine 86 = .ok (.iload_n 1, 1) := by decide +kernel
theorem dX3_thingLine_87 : decode cX3_thingLine 87 = .ok (.aload_n 0, 1) := by decide +kernel
theorem dX3_thingLine_88 : decode cX3_thingLine 88 = .ok (.getfield 77, 3) := by decide +kernel
theorem dX3_thingLine_91 : decode cX3_thingLine 91 = .ok (.iastore, 1) := by decide +kernel
theorem dX3_thingLine_92 : decode cX3_thingLine 92 = .ok (.aload_n 0, 1) := by decide +kernel
theorem dX3_thingLine_93 : decode cX3_thingLine 93 = .ok (.invokevirtual 54, 3) := by decide +kernel
theorem dX3_thingLine_96 : decode cX3_thingLine 96 = .ok (.aload_n 0, 1) := by decide +kernel
theorem dX3_thingLine_97 : decode cX3_thingLine 97 = .ok (.ldc 187, 2) := by decide +kernel
theorem dX3_thingLine_99 : decode cX3_thingLine 99 = .ok (.invokevirtual 92, 3) := by decide +kernel
theorem dX3_thingLine_102 : decode cX3_thingLine 102 = .ok (.ifCond .eq 51, 3) := by decide +kernel
theorem dX3_thingLine_105 : decode cX3_thingLine 105 = .ok (.aload_n 0, 1) := by decide +kernel
theorem dX3_thingLine_106 : decode cX3_thingLine 106 = .ok (.invokevirtual 181, 3) := by decide +kernel
theorem dX3_thingLine_109 : decode cX3_thingLine 109 = .ok (.ifCond .ne 5, 3) := by decide +kernel
theorem dX3_thingLine_112 : decode cX3_thingLine 112 = .ok (.iconst 0, 1) := by decide +kernel
theorem dX3_thingLine_113 : decode cX3_thingLine 113 = .ok (.ireturn, 1) := by decide +kernel
theorem dX3_thingLine_114 : decode cX3_thingLine 114 = .ok (.aload_n 0, 1) := by decide +kernel
theorem dX3_thingLine_115 : decode cX3_thingLine 115 = .ok (.getfield 77, 3) := by decide +kernel
theorem dX3_thingLine_118 : decode cX3_thingLine 118 = .ok (.aload_n 0, 1) := by decide +kernel
theorem dX3_thingLine_119 : decode cX3_thingLine 119 = .ok (.getfield 29, 3) := by decide +kernel
theorem dX3_thingLine_122 : decode cX3_thingLine 122 = .ok (.getfield 184, 3) := by decide +kernel
theorem dX3_thingLine_125 : decode cX3_thingLine 125 = .ok (.iload_n 1, 1) := by decide +kernel
theorem dX3_thingLine_126 : decode cX3_thingLine 126 = .ok (.iaload, 1) := by decide +kernel
theorem dX3_thingLine_127 : decode cX3_thingLine 127 = .ok (.if_icmp .ne 9, 3) := by decide +kernel
theorem dX3_thingLine_130 : decode cX3_thingLine 130 = .ok (.aload_n 0, 1) := by decide +kernel
theorem dX3_thingLine_131 : decode cX3_thingLine 131 = .ok (.iconst 4, 1) := by decide +kernel
theorem dX3_thingLine_132 : decode cX3_thingLine 132 = .ok (.invokevirtual 131, 3) := by decide +kernel
theorem dX3_thingLine_135 : decode cX3_thingLine 135 = .ok (.ireturn, 1) := by decide +kernel
theorem dX3_thingLine_136 : decode cX3_thingLine 136 = .ok (.aload_n 0, 1) := by decide +kernel
theorem dX3_thingLine_137 : decode cX3_thingLine 137 = .ok (.getfield 29, 3) := by decide +kernel
theorem dX3_thingLine_140 : decode cX3_thingLine 140 = .ok (.getfield 189, 3) := by decide +kernel
theorem dX3_thingLine_143 : decode cX3_thingLine 143 = .ok (.iload_n 1, 1) := by decide +kernel
theorem dX3_thingLine_144 : decode cX3_thingLine 144 = .ok (.aload_n 0, 1) := by decide +kernel
theorem dX3_thingLine_145 : decode cX3_thingLine 145 = .ok (.getfield 77, 3) := by decide +kernel
theorem dX3_thingLine_148 : decode cX3_thingLine 148 = .ok (.iastore, 1) := by decide +kernel
theorem dX3_thingLine_149 : decode cX3_thingLine 149 = .ok (.aload_n 0, 1) := by decide +kernel
theorem dX3_thingLine_150 : decode cX3_thingLine 150 = .ok (.invokevirtual 54, 3) := by decide +kernel
theorem dX3_thingLine_153 : decode cX3_thingLine 153 = .ok (.aload_n 0, 1) := by decide +kernel
theorem dX3_thingLine_154 : decode cX3_thingLine 154 = .ok (.getfield 29, 3) := by decide +kernel
theorem dX3_thingLine_157 : decode cX3_thingLine 157 = .ok (.dup, 1) := by decide +kernel
theorem dX3_thingLine_158 : decode cX3_thingLine 158 = .ok (.getfield 172, 3) := by decide +kernel
theorem dX3_thingLine_161 : decode cX3_thingLine 161 = .ok (.iconst 1, 1) := by decide +kernel
theorem dX3_thingLine_162 : decode cX3_thingLine 162 = .ok (.iadd, 1) := by decide +kernel
theorem dX3_thingLine_163 : decode cX3_thingLine 163 = .ok (.putfield 172, 3) := by decide +kernel
theorem dX3_thingLine_166 : decode cX3_thingLine 166 = .ok (.aload_n 0, 1) := by decide +kernel
theorem dX3_thingLine_167 : decode cX3_thingLine 167 = .ok (.invokevirtual 153, 3) := by decide +kernel
theorem dX3_thingLine_170 : decode cX3_thingLine 170 = .ok (.ireturn, 1) := by decide +kernel
theorem dX3_ruleLine_0 : decode cX3_ruleLine 0 = .ok (.aload_n 1, 1) := by decide +kernel
theorem dX3_ruleLine_1 : decode cX3_ruleLine 1 = .ok (.invokevirtual 192, 3) := by decide +kernel
theorem dX3_ruleLine_4 : decode cX3_ruleLine 4 = .ok (.ifCond .eq 9, 3) := by decide +kernel
theorem dX3_ruleLine_7 : decode cX3_ruleLine 7 = .ok (.aload_n 0, 1) := by decide +kernel
theorem dX3_ruleLine_8 : decode cX3_ruleLine 8 = .ok (.iconst 5, 1) := by decide +kernel
theorem dX3_ruleLine_9 : decode cX3_ruleLine 9 = .ok (.invokevirtual 131, 3) := by decide +kernel
theorem dX3_ruleLine_12 : decode cX3_ruleLine 12 = .ok (.ireturn, 1) := by decide +kernel
theorem dX3_ruleLine_13 : decode cX3_ruleLine 13 = .ok (.aload_n 0, 1) := by decide +kernel
theorem dX3_ruleLine_14 : decode cX3_ruleLine 14 = .ok (.getfield 29, 3) := by decide +kernel
theorem dX3_ruleLine_17 : decode cX3_ruleLine 17 = .ok (.getfield 197, 3) := by decide +kernel
theorem dX3_ruleLine_20 : decode cX3_ruleLine 20 = .ok (.istore_n 2, 1) := by decide +kernel
theorem dX3_ruleLine_21 : decode cX3_ruleLine 21 = .ok (.aload_n 0, 1) := by decide +kernel
theorem dX3_ruleLine_22 : decode cX3_ruleLine 22 = .ok (.invokevirtual 200, 3) := by decide +kernel
theorem dX3_ruleLine_25 : decode cX3_ruleLine 25 = .ok (.iconst 0, 1) := by decide +kernel
theorem dX3_ruleLine_26 : decode cX3_ruleLine 26 = .ok (.istore_n 3, 1) := by decide +kernel
theorem dX3_ruleLine_27 : decode cX3_ruleLine 27 = .ok (.iconst 0, 1) := by decide +kernel
theorem dX3_ruleLine_28 : decode cX3_ruleLine 28 = .ok (.istore 4, 2) := by decide +kernel
theorem dX3_ruleLine_30 : decode cX3_ruleLine 30 = .ok (.iload 4, 2) := by decide +kernel
theorem dX3_ruleLine_32 : decode cX3_ruleLine 32 = .ok (.sipush 700, 3) := by decide +kernel
theorem dX3_ruleLine_35 : decode cX3_ruleLine 35 = .ok (.if_icmp .gt 92, 3) := by decide +kernel
theorem dX3_ruleLine_38 : decode cX3_ruleLine 38 = .ok (.iload_n 3, 1) := by decide +kernel
theorem dX3_ruleLine_39 : decode cX3_ruleLine 39 = .ok (.ifCond .ne 88, 3) := by decide +kernel
theorem dX3_ruleLine_42 : decode cX3_ruleLine 42 = .ok (.aload_n 0, 1) := by decide +kernel
theorem dX3_ruleLine_43 : decode cX3_ruleLine 43 = .ok (.invokevirtual 54, 3) := by decide +kernel
theorem dX3_ruleLine_46 : decode cX3_ruleLine 46 = .ok (.aload_n 0, 1) := by decide +kernel
theorem dX3_ruleLine_47 : decode cX3_ruleLine 47 = .ok (.getfield 203, 3) := by decide +kernel
theorem dX3_ruleLine_50 : decode cX3_ruleLine 50 = .ok (.ifCond .ne 23, 3) := by decide +kernel
theorem dX3_ruleLine_53 : decode cX3_ruleLine 53 = .ok (.aload_n 0, 1) := by decide +kernel
theorem dX3_ruleLine_54 : decode cX3_ruleLine 54 = .ok (.getfield 206, 3) := by decide +kernel
theorem dX3_ruleLine_57 : decode cX3_ruleLine 57 = .ok (.ifCond .ne 16, 3) := by decide +kernel
theorem dX3_ruleLine_60 : decode cX3_ruleLine 60 = .ok (.aload_n 0, 1) := by decide +kernel
theorem dX3_ruleLine_61 : decode cX3_ruleLine 61 = .ok (.bipush 59, 2) := by decide +kernel
theorem dX3_ruleLine_63 : decode cX3_ruleLine 63 = .ok (.invokevirtual 134, 3) := by decide +kernel
theorem dX3_ruleLine_66 : decode cX3_ruleLine 66 = .ok (.ifCond .eq 7, 3) := by decide +kernel
theorem dX3_ruleLine_69 : decode cX3_ruleLine 69 = .ok (.iconst 1, 1) := by decide +kernel
theorem dX3_ruleLine_70 : decode cX3_ruleLine 70 = .ok (.goto 4, 3) := by decide +kernel
theorem dX3_ruleLine_73 : decode cX3_ruleLine 73 = .ok (.iconst 0, 1) := by decide +kernel
theorem dX3_ruleLine_74 : decode cX3_ruleLine 74 = .ok (.istore_n 3, 1) := by decide +kernel
theorem dX3_ruleLine_75 : decode cX3_ruleLine 75 = .ok (.iload_n 3, 1) := by decide +kernel
theorem dX3_ruleLine_76 : decode cX3_ruleLine 76 = .ok (.ifCond .ne 45, 3) := by decide +kernel
theorem dX3_ruleLine_79 : decode cX3_ruleLine 79 = .ok (.aload_n 0, 1) := by decide +kernel
theorem dX3_ruleLine_80 : decode cX3_ruleLine 80 = .ok (.getfield 203, 3) := by decide +kernel
theorem dX3_ruleLine_83 : decode cX3_ruleLine 83 = .ok (.ifCond .eq 29, 3) := by decide +kernel
theorem dX3_ruleLine_86 : decode cX3_ruleLine 86 = .ok (.aload_n 0, 1) := by decide +kernel
theorem dX3_ruleLine_87 : decode cX3_ruleLine 87 = .ok (.aload_n 1, 1) := by decide +kernel
theorem dX3_ruleLine_88 : decode cX3_ruleLine 88 = .ok (.aload_n 0, 1) := by decide +kernel
theorem dX3_ruleLine_89 : decode cX3_ruleLine 89 = .ok (.getfield 29, 3) := by decide +kernel
theorem dX3_ruleLine_92 : decode cX3_ruleLine 92 = .ok (.getfield 120, 3) := by decide +kernel
theorem dX3_ruleLine_95 : decode cX3_ruleLine 95 = .ok (.if_acmp .ne 7, 3) := by decide +kernel
theorem dX3_ruleLine_98 : decode cX3_ruleLine 98 = .ok (.iconst 1, 1) := by decide +kernel
theorem dX3_ruleLine_99 : decode cX3_ruleLine 99 = .ok (.goto 4, 3) := by decide +kernel
theorem dX3_ruleLine_102 : decode cX3_ruleLine 102 = .ok (.iconst 0, 1) := by decide +kernel
theorem dX3_ruleLine_103 : decode cX3_ruleLine 103 = .ok (.invokevirtual 209, 3) := by decide +kernel
theorem dX3_ruleLine_106 : decode cX3_ruleLine 106 = .ok (.ifCond .eq 13, 3) := by decide +kernel
theorem dX3_ruleLine_109 : decode cX3_ruleLine 109 = .ok (.goto 12, 3) := by decide +kernel
theorem dX3_ruleLine_112 : decode cX3_ruleLine 112 = .ok (.aload_n 0, 1) := by decide +kernel
theorem dX3_ruleLine_113 : decode cX3_ruleLine 113 = .ok (.invokevirtual 213, 3) := by decide +kernel
theorem dX3_ruleLine_116 : decode cX3_ruleLine 116 = .ok (.ifCond .ne 5, 3) := by decide +kernel
theorem dX3_ruleLine_119 : decode cX3_ruleLine 119 = .ok (.iconst 0, 1) := by decide +kernel
theorem dX3_ruleLine_120 : decode cX3_ruleLine 120 = .ok (.ireturn, 1) := by decide +kernel
theorem dX3_ruleLine_121 : decode cX3_ruleLine 121 = .ok (.iinc 4 1, 3) := by decide +kernel
theorem dX3_ruleLine_124 : decode cX3_ruleLine 124 = .ok (.goto (-94), 3) := by decide +kernel
theorem dX3_ruleLine_127 : decode cX3_ruleLine 127 = .ok (.aload_n 0, 1) := by decide +kernel
theorem dX3_ruleLine_128 : decode cX3_ruleLine 128 = .ok (.iconst 0, 1) := by decide +kernel
theorem dX3_ruleLine_129 : decode cX3_ruleLine 129 = .ok (.invokevirtual 216, 3) := by decide +kernel
theorem dX3_ruleLine_132 : decode cX3_ruleLine 132 = .ok (.aload_n 1, 1) := by decide +kernel
theorem dX3_ruleLine_133 : decode cX3_ruleLine 133 = .ok (.iload_n 2, 1) := by decide +kernel
theorem dX3_ruleLine_134 : decode cX3_ruleLine 134 = .ok (.putfield 220, 3) := by decide +kernel
theorem dX3_ruleLine_137 : decode cX3_ruleLine 137 = .ok (.aload_n 1, 1) := by decide +kernel
theorem dX3_ruleLine_138 : decode cX3_ruleLine 138 = .ok (.aload_n 0, 1) := by decide +kernel
theorem dX3_ruleLine_139 : decode cX3_ruleLine 139 = .ok (.getfield 29, 3) := by decide +kernel
theorem dX3_ruleLine_142 : decode cX3_ruleLine 142 = .ok (.getfield 197, 3) := by decide +kernel
theorem dX3_ruleLine_145 : decode cX3_ruleLine 145 = .ok (.putfield 223, 3) := by decide +kernel
theorem dX3_ruleLine_148 : decode cX3_ruleLine 148 = .ok (.aload_n 0, 1) := by decide +kernel
theorem dX3_ruleLine_149 : decode cX3_ruleLine 149 = .ok (.invokevirtual 153, 3) := by decide +kernel
theorem dX3_ruleLine_152 : decode cX3_ruleLine 152 = .ok (.ireturn, 1) := by decide +kernel
theorem dX3_beginRule_0 : decode cX3_beginRule 0 = .ok (.aload_n 0, 1) := by decide +kernel
theorem dX3_beginRule_1 : decode cX3_beginRule 1 = .ok (.iconst 0, 1) := by decide +kernel
theorem dX3_beginRule_2 : decode cX3_beginRule 2 = .ok (.putfield 224, 3) := by decide +kernel
theorem dX3_beginRule_5 : decode cX3_beginRule 5 = .ok (.aload_n 0, 1) := by decide +kernel
theorem dX3_beginRule_6 : decode cX3_beginRule 6 = .ok (.iconst 0, 1) := by decide +kernel
theorem dX3_beginRule_7 : decode cX3_beginRule 7 = .ok (.putfield 206, 3) := by decide +kernel
theorem dX3_beginRule_10 : decode cX3_beginRule 10 = .ok (.aload_n 0, 1) := by decide +kernel
theorem dX3_beginRule_11 : decode cX3_beginRule 11 = .ok (.iconst 0, 1) := by decide +kernel
theorem dX3_beginRule_12 : decode cX3_beginRule 12 = .ok (.putfield 227, 3) := by decide +kernel
theorem dX3_beginRule_15 : decode cX3_beginRule 15 = .ok (.aload_n 0, 1) := by decide +kernel
theorem dX3_beginRule_16 : decode cX3_beginRule 16 = .ok (.iconst 1, 1) := by decide +kernel
theorem dX3_beginRule_17 : decode cX3_beginRule 17 = .ok (.putfield 203, 3) := by decide +kernel
theorem dX3_beginRule_20 : decode cX3_beginRule 20 = .ok (.aload_n 0, 1) := by decide +kernel
theorem dX3_beginRule_21 : decode cX3_beginRule 21 = .ok (.iconst 1, 1) := by decide +kernel
theorem dX3_beginRule_22 : decode cX3_beginRule 22 = .ok (.putfield 230, 3) := by decide +kernel
theorem dX3_beginRule_25 : decode cX3_beginRule 25 = .ok (.return_, 1) := by decide +kernel
theorem dX3_part_0 : decode cX3_part 0 = .ok (.aload_n 0, 1) := by decide +kernel
theorem dX3_part_1 : decode cX3_part 1 = .ok (.getfield 57, 3) := by decide +kernel
theorem dX3_part_4 : decode cX3_part 4 = .ok (.iconst 2, 1) := by decide +kernel
theorem dX3_part_5 : decode cX3_part 5 = .ok (.if_icmp .eq 20, 3) := by decide +kernel
theorem dX3_part_8 : decode cX3_part 8 = .ok (.aload_n 0, 1) := by decide +kernel
theorem dX3_part_9 : decode cX3_part 9 = .ok (.getfield 57, 3) := by decide +kernel
theorem dX3_part_12 : decode cX3_part 12 = .ok (.iconst 1, 1) := by decide +kernel
theorem dX3_part_13 : decode cX3_part 13 = .ok (.if_icmp .eq 12, 3) := by decide +kernel
theorem dX3_part_16 : decode cX3_part 16 = .ok (.aload_n 0, 1) := by decide +kernel
theorem dX3_part_17 : decode cX3_part 17 = .ok (.bipush 40, 2) := by decide +kernel
theorem dX3_part_19 : decode cX3_part 19 = .ok (.invokevirtual 134, 3) := by decide +kernel
theorem dX3_part_22 : decode cX3_part 22 = .ok (.ifCond .eq 7, 3) := by decide +kernel
theorem dX3_part_25 : decode cX3_part 25 = .ok (.iconst 1, 1) := by decide +kernel
theorem dX3_part_26 : decode cX3_part 26 = .ok (.goto 4, 3) := by decide +kernel
theorem dX3_part_29 : decode cX3_part 29 = .ok (.iconst 0, 1) := by decide +kernel
theorem dX3_part_30 : decode cX3_part 30 = .ok (.istore_n 2, 1) := by decide +kernel
theorem dX3_part_31 : decode cX3_part 31 = .ok (.iload_n 2, 1) := by decide +kernel
theorem dX3_part_32 : decode cX3_part 32 = .ok (.ifCond .ne 9, 3) := by decide +kernel
theorem dX3_part_35 : decode cX3_part 35 = .ok (.aload_n 0, 1) := by decide +kernel
theorem dX3_part_36 : decode cX3_part 36 = .ok (.iconst 1, 1) := by decide +kernel
theorem dX3_part_37 : decode cX3_part 37 = .ok (.invokevirtual 131, 3) := by decide +kernel
theorem dX3_part_40 : decode cX3_part 40 = .ok (.ireturn, 1) := by decide +kernel
theorem dX3_part_41 : decode cX3_part 41 = .ok (.aload_n 0, 1) := by decide +kernel
theorem dX3_part_42 : decode cX3_part 42 = .ok (.getfield 206, 3) := by decide +kernel
theorem dX3_part_45 : decode cX3_part 45 = .ok (.bipush 6, 2) := by decide +kernel
theorem dX3_part_47 : decode cX3_part 47 = .ok (.if_icmp .lt 9, 3) := by decide +kernel
theorem dX3_part_50 : decode cX3_part 50 = .ok (.aload_n 0, 1) := by decide +kernel
theorem dX3_part_51 : decode cX3_part 51 = .ok (.iconst 2, 1) := by decide +kernel
theorem dX3_part_52 : decode cX3_part 52 = .ok (.invokevirtual 131, 3) := by decide +kernel
theorem dX3_part_55 : decode cX3_part 55 = .ok (.ireturn, 1) := by decide +kernel
theorem dX3_part_56 : decode cX3_part 56 = .ok (.aload_n 0, 1) := by decide +kernel
theorem dX3_part_57 : decode cX3_part 57 = .ok (.getfield 57, 3) := by decide +kernel
theorem dX3_part_60 : decode cX3_part 60 = .ok (.iconst 2, 1) := by decide +kernel
theorem dX3_part_61 : decode cX3_part 61 = .ok (.if_icmp .ne 27, 3) := by decide +kernel
theorem dX3_part_64 : decode cX3_part 64 = .ok (.aload_n 0, 1) := by decide +kernel
theorem dX3_part_65 : decode cX3_part 65 = .ok (.invokevirtual 138, 3) := by decide +kernel
theorem dX3_part_68 : decode cX3_part 68 = .ok (.ifCond .eq 18, 3) := by decide +kernel
theorem dX3_part_71 : decode cX3_part 71 = .ok (.aload_n 0, 1) := by decide +kernel
theorem dX3_part_72 : decode cX3_part 72 = .ok (.aload_n 0, 1) := by decide +kernel
theorem dX3_part_73 : decode cX3_part 73 = .ok (.getfield 77, 3) := by decide +kernel
theorem dX3_part_76 : decode cX3_part 76 = .ok (.invokevirtual 233, 3) := by decide +kernel
theorem dX3_part_79 : decode cX3_part 79 = .ok (.ifCond .eq 7, 3) := by decide +kernel
theorem dX3_part_82 : decode cX3_part 82 = .ok (.iconst 1, 1) := by decide +kernel
theorem dX3_part_83 : decode cX3_part 83 = .ok (.goto 4, 3) := by decide +kernel
theorem dX3_part_86 : decode cX3_part 86 = .ok (.iconst 0, 1) := by decide +kernel
theorem dX3_part_87 : decode cX3_part 87 = .ok (.ireturn, 1) := by decide +kernel
theorem dX3_part_88 : decode cX3_part 88 = .ok (.aload_n 0, 1) := by decide +kernel
theorem dX3_part_89 : decode cX3_part 89 = .ok (.getfield 57, 3) := by decide +kernel
theorem dX3_part_92 : decode cX3_part 92 = .ok (.iconst 1, 1) := by decide +kernel
theorem dX3_part_93 : decode cX3_part 93 = .ok (.if_icmp .ne 9, 3) := by decide +kernel
theorem dX3_part_96 : decode cX3_part 96 = .ok (.aload_n 0, 1) := by decide +kernel
theorem dX3_part_97 : decode cX3_part 97 = .ok (.iload_n 1, 1) := by decide +kernel
theorem dX3_part_98 : decode cX3_part 98 = .ok (.invokevirtual 236, 3) := by decide +kernel
theorem dX3_part_101 : decode cX3_part 101 = .ok (.ireturn, 1) := by decide +kernel
theorem dX3_part_102 : decode cX3_part 102 = .ok (.aload_n 0, 1) := by decide +kernel
theorem dX3_part_103 : decode cX3_part 103 = .ok (.dup, 1) := by decide +kernel
theorem dX3_part_104 : decode cX3_part 104 = .ok (.getfield 206, 3) := by decide +kernel
theorem dX3_part_107 : decode cX3_part 107 = .ok (.iconst 1, 1) := by decide +kernel
theorem dX3_part_108 : decode cX3_part 108 = .ok (.iadd, 1) := by decide +kernel
theorem dX3_part_109 : decode cX3_part 109 = .ok (.putfield 206, 3) := by decide +kernel
theorem dX3_part_112 : decode cX3_part 112 = .ok (.aload_n 0, 1) := by decide +kernel
theorem dX3_part_113 : decode cX3_part 113 = .ok (.iconst 0, 1) := by decide +kernel
theorem dX3_part_114 : decode cX3_part 114 = .ok (.putfield 227, 3) := by decide +kernel
theorem dX3_part_117 : decode cX3_part 117 = .ok (.aload_n 0, 1) := by decide +kernel
theorem dX3_part_118 : decode cX3_part 118 = .ok (.iconst 1, 1) := by decide +kernel
theorem dX3_part_119 : decode cX3_part 119 = .ok (.putfield 230, 3) := by decide +kernel
theorem dX3_part_122 : decode cX3_part 122 = .ok (.aload_n 0, 1) := by decide +kernel
theorem dX3_part_123 : decode cX3_part 123 = .ok (.iconst 0, 1) := by decide +kernel
theorem dX3_part_124 : decode cX3_part 124 = .ok (.invokevirtual 239, 3) := by decide +kernel
theorem dX3_part_127 : decode cX3_part 127 = .ok (.ireturn, 1) := by decide +kernel
theorem dX3_wordOfPart_0 : decode cX3_wordOfPart 0 = .ok (.aload_n 0, 1) := by decide +kernel
theorem dX3_wordOfPart_1 : decode cX3_wordOfPart 1 = .ok (.getfield 230, 3) := by decide +kernel
theorem dX3_wordOfPart_4 : decode cX3_wordOfPart 4 = .ok (.ifCond .eq 43, 3) := by decide +kernel
theorem dX3_wordOfPart_7 : decode cX3_wordOfPart 7 = .ok (.aload_n 0, 1) := by decide +kernel
theorem dX3_wordOfPart_8 : decode cX3_wordOfPart 8 = .ok (.ldc 242, 2) := by decide +kernel
theorem dX3_wordOfPart_10 : decode cX3_wordOfPart 10 = .ok (.invokevirtual 92, 3) := by decide +kernel
theorem dX3_wordOfPart_13 : decode cX3_wordOfPart 13 = .ok (.ifCond .eq 34, 3) := by decide +kernel
theorem dX3_wordOfPart_16 : decode cX3_wordOfPart 16 = .ok (.aload_n 0, 1) := by decide +kernel
theorem dX3_wordOfPart_17 : decode cX3_wordOfPart 17 = .ok (.getfield 227, 3) := by decide +kernel
theorem dX3_wordOfPart_20 : decode cX3_wordOfPart 20 = .ok (.bipush 6, 2) := by decide +kernel
theorem dX3_wordOfPart_22 : decode cX3_wordOfPart 22 = .ok (.if_icmp .lt 9, 3) := by decide +kernel
theorem dX3_wordOfPart_25 : decode cX3_wordOfPart 25 = .ok (.aload_n 0, 1) := by decide +kernel
theorem dX3_wordOfPart_26 : decode cX3_wordOfPart 26 = .ok (.iconst 2, 1) := by decide +kernel
theorem dX3_wordOfPart_27 : decode cX3_wordOfPart 27 = .ok (.invokevirtual 131, 3) := by decide +kernel
theorem dX3_wordOfPart_30 : decode cX3_wordOfPart 30 = .ok (.ireturn, 1) := by decide +kernel
theorem dX3_wordOfPart_31 : decode cX3_wordOfPart 31 = .ok (.aload_n 0, 1) := by decide +kernel
theorem dX3_wordOfPart_32 : decode cX3_wordOfPart 32 = .ok (.dup, 1) := by decide +kernel
theorem dX3_wordOfPart_33 : decode cX3_wordOfPart 33 = .ok (.getfield 227, 3) := by decide +kernel
theorem dX3_wordOfPart_36 : decode cX3_wordOfPart 36 = .ok (.iconst 1, 1) := by decide +kernel
theorem dX3_wordOfPart_37 : decode cX3_wordOfPart 37 = .ok (.iadd, 1) := by decide +kernel
theorem dX3_wordOfPart_38 : decode cX3_wordOfPart 38 = .ok (.putfield 227, 3) := by decide +kernel
theorem dX3_wordOfPart_41 : decode cX3_wordOfPart 41 = .ok (.aload_n 0, 1) := by decide +kernel
theorem dX3_wordOfPart_42 : decode cX3_wordOfPart 42 = .ok (.iconst 3, 1) := by decide +kernel
theorem dX3_wordOfPart_43 : decode cX3_wordOfPart 43 = .ok (.invokevirtual 239, 3) := by decide +kernel
theorem dX3_wordOfPart_46 : decode cX3_wordOfPart 46 = .ok (.ireturn, 1) := by decide +kernel
theorem dX3_wordOfPart_47 : decode cX3_wordOfPart 47 = .ok (.iload_n 1, 1) := by decide +kernel
theorem dX3_wordOfPart_48 : decode cX3_wordOfPart 48 = .ok (.ifCond .eq 10, 3) := by decide +kernel
theorem dX3_wordOfPart_51 : decode cX3_wordOfPart 51 = .ok (.aload_n 0, 1) := by decide +kernel
theorem dX3_wordOfPart_52 : decode cX3_wordOfPart 52 = .ok (.invokevirtual 244, 3) := by decide +kernel
theorem dX3_wordOfPart_55 : decode cX3_wordOfPart 55 = .ok (.goto 7, 3) := by decide +kernel
theorem dX3_wordOfPart_58 : decode cX3_wordOfPart 58 = .ok (.aload_n 0, 1) := by decide +kernel
theorem dX3_wordOfPart_59 : decode cX3_wordOfPart 59 = .ok (.invokevirtual 247, 3) := by decide +kernel
theorem dX3_wordOfPart_62 : decode cX3_wordOfPart 62 = .ok (.istore_n 2, 1) := by decide +kernel
theorem dX3_wordOfPart_63 : decode cX3_wordOfPart 63 = .ok (.iload_n 2, 1) := by decide +kernel
theorem dX3_wordOfPart_64 : decode cX3_wordOfPart 64 = .ok (.iconst (-1), 1) := by decide +kernel
theorem dX3_wordOfPart_65 : decode cX3_wordOfPart 65 = .ok (.if_icmp .ne 11, 3) := by decide +kernel
theorem dX3_wordOfPart_68 : decode cX3_wordOfPart 68 = .ok (.aload_n 0, 1) := by decide +kernel
theorem dX3_wordOfPart_69 : decode cX3_wordOfPart 69 = .ok (.iconst 3, 1) := by decide +kernel
theorem dX3_wordOfPart_70 : decode cX3_wordOfPart 70 = .ok (.invokevirtual 131, 3) := by decide +kernel
theorem dX3_wordOfPart_73 : decode cX3_wordOfPart 73 = .ok (.goto 12, 3) := by decide +kernel
theorem dX3_wordOfPart_76 : decode cX3_wordOfPart 76 = .ok (.aload_n 0, 1) := by decide +kernel
theorem dX3_wordOfPart_77 : decode cX3_wordOfPart 77 = .ok (.sipush 10000, 3) := by decide +kernel
theorem dX3_wordOfPart_80 : decode cX3_wordOfPart 80 = .ok (.iload_n 2, 1) := by decide +kernel
theorem dX3_wordOfPart_81 : decode cX3_wordOfPart 81 = .ok (.iadd, 1) := by decide +kernel
theorem dX3_wordOfPart_82 : decode cX3_wordOfPart 82 = .ok (.invokevirtual 233, 3) := by decide +kernel
theorem dX3_wordOfPart_85 : decode cX3_wordOfPart 85 = .ok (.ireturn, 1) := by decide +kernel
theorem dX3_valueOfShames_0 : decode cX3_valueOfShames 0 = .ok (.aload_n 0, 1) := by decide +kernel
theorem dX3_valueOfShames_1 : decode cX3_valueOfShames 1 = .ok (.ldc 250, 2) := by decide +kernel
theorem dX3_valueOfShames_3 : decode cX3_valueOfShames 3 = .ok (.invokevirtual 92, 3) := by decide +kernel
theorem dX3_valueOfShames_6 : decode cX3_valueOfShames 6 = .ok (.ifCond .eq 5, 3) := by decide +kernel
theorem dX3_valueOfShames_9 : decode cX3_valueOfShames 9 = .ok (.iconst 0, 1) := by decide +kernel
theorem dX3_valueOfShames_10 : decode cX3_valueOfShames 10 = .ok (.ireturn, 1) := by decide +kernel
theorem dX3_valueOfShames_11 : decode cX3_valueOfShames 11 = .ok (.aload_n 0, 1) := by decide +kernel
theorem dX3_valueOfShames_12 : decode cX3_valueOfShames 12 = .ok (.ldc 251, 2) := by decide +kernel
theorem dX3_valueOfShames_14 : decode cX3_valueOfShames 14 = .ok (.invokevirtual 92, 3) := by decide +kernel
theorem dX3_valueOfShames_17 : decode cX3_valueOfShames 17 = .ok (.ifCond .eq 5, 3) := by decide +kernel
theorem dX3_valueOfShames_20 : decode cX3_valueOfShames 20 = .ok (.iconst 1, 1) := by decide +kernel
theorem dX3_valueOfShames_21 : decode cX3_valueOfShames 21 = .ok (.ireturn, 1) := by decide +kernel
theorem dX3_valueOfShames_22 : decode cX3_valueOfShames 22 = .ok (.aload_n 0, 1) := by decide +kernel
theorem dX3_valueOfShames_23 : decode cX3_valueOfShames 23 = .ok (.ldc 252, 2) := by decide +kernel
theorem dX3_valueOfShames_25 : decode cX3_valueOfShames 25 = .ok (.invokevirtual 92, 3) := by decide +kernel
theorem dX3_valueOfShames_28 : decode cX3_valueOfShames 28 = .ok (.ifCond .eq 5, 3) := by decide +kernel
theorem dX3_valueOfShames_31 : decode cX3_valueOfShames 31 = .ok (.iconst 2, 1) := by decide +kernel
theorem dX3_valueOfShames_32 : decode cX3_valueOfShames 32 = .ok (.ireturn, 1) := by decide +kernel
theorem dX3_valueOfShames_33 : decode cX3_valueOfShames 33 = .ok (.aload_n 0, 1) := by decide +kernel
theorem dX3_valueOfShames_34 : decode cX3_valueOfShames 34 = .ok (.ldc 254, 2) := by decide +kernel
theorem dX3_valueOfShames_36 : decode cX3_valueOfShames 36 = .ok (.invokevirtual 92, 3) := by decide +kernel
theorem dX3_valueOfShames_39 : decode cX3_valueOfShames 39 = .ok (.ifCond .eq 5, 3) := by decide +kernel
theorem dX3_valueOfShames_42 : decode cX3_valueOfShames 42 = .ok (.iconst 3, 1) := by decide +kernel
theorem dX3_valueOfShames_43 : decode cX3_valueOfShames 43 = .ok (.ireturn, 1) := by decide +kernel
theorem dX3_valueOfShames_44 : decode cX3_valueOfShames 44 = .ok (.aload_n 0, 1) := by decide +kernel
theorem dX3_valueOfShames_45 : decode cX3_valueOfShames 45 = .ok (.ldc_w 256, 3) := by decide +kernel
theorem dX3_valueOfShames_48 : decode cX3_valueOfShames 48 = .ok (.invokevirtual 92, 3) := by decide +kernel
theorem dX3_valueOfShames_51 : decode cX3_valueOfShames 51 = .ok (.ifCond .eq 5, 3) := by decide +kernel
theorem dX3_valueOfShames_54 : decode cX3_valueOfShames 54 = .ok (.iconst 4, 1) := by decide +kernel
theorem dX3_valueOfShames_55 : decode cX3_valueOfShames 55 = .ok (.ireturn, 1) := by decide +kernel
theorem dX3_valueOfShames_56 : decode cX3_valueOfShames 56 = .ok (.aload_n 0, 1) := by decide +kernel
theorem dX3_valueOfShames_57 : decode cX3_valueOfShames 57 = .ok (.ldc_w 257, 3) := by decide +kernel
theorem dX3_valueOfShames_60 : decode cX3_valueOfShames 60 = .ok (.invokevirtual 92, 3) := by decide +kernel
theorem dX3_valueOfShames_63 : decode cX3_valueOfShames 63 = .ok (.ifCond .eq 5, 3) := by decide +kernel
theorem dX3_valueOfShames_66 : decode cX3_valueOfShames 66 = .ok (.iconst 5, 1) := by decide +kernel
theorem dX3_valueOfShames_67 : decode cX3_valueOfShames 67 = .ok (.ireturn, 1) := by decide +kernel
theorem dX3_valueOfShames_68 : decode cX3_valueOfShames 68 = .ok (.aload_n 0, 1) := by decide +kernel
theorem dX3_valueOfShames_69 : decode cX3_valueOfShames 69 = .ok (.ldc_w 258, 3) := by decide +kernel
theorem dX3_valueOfShames_72 : decode cX3_valueOfShames 72 = .ok (.invokevirtual 92, 3) := by decide +kernel
theorem dX3_valueOfShames_75 : decode cX3_valueOfShames 75 = .ok (.ifCond .eq 8, 3) := by decide +kernel
theorem dX3_valueOfShames_78 : decode cX3_valueOfShames 78 = .ok (.bipush 6, 2) := by decide +kernel
theorem dX3_valueOfShames_80 : decode cX3_valueOfShames 80 = .ok (.goto 4, 3) := by decide +kernel
theorem dX3_valueOfShames_83 : decode cX3_valueOfShames 83 = .ok (.iconst (-1), 1) := by decide +kernel
theorem dX3_valueOfShames_84 : decode cX3_valueOfShames 84 = .ok (.ireturn, 1) := by decide +kernel
theorem dX3_valueOfReturns_0 : decode cX3_valueOfReturns 0 = .ok (.aload_n 0, 1) := by decide +kernel
theorem dX3_valueOfReturns_1 : decode cX3_valueOfReturns 1 = .ok (.ldc_w 260, 3) := by decide +kernel
theorem dX3_valueOfReturns_4 : decode cX3_valueOfReturns 4 = .ok (.invokevirtual 92, 3) := by decide +kernel
theorem dX3_valueOfReturns_7 : decode cX3_valueOfReturns 7 = .ok (.ifCond .eq 6, 3) := by decide +kernel
theorem dX3_valueOfReturns_10 : decode cX3_valueOfReturns 10 = .ok (.bipush 7, 2) := by decide +kernel
theorem dX3_valueOfReturns_12 : decode cX3_valueOfReturns 12 = .ok (.ireturn, 1) := by decide +kernel
theorem dX3_valueOfReturns_13 : decode cX3_valueOfReturns 13 = .ok (.aload_n 0, 1) := by decide +kernel
theorem dX3_valueOfReturns_14 : decode cX3_valueOfReturns 14 = .ok (.ldc_w 256, 3) := by decide +kernel
theorem dX3_valueOfReturns_17 : decode cX3_valueOfReturns 17 = .ok (.invokevirtual 92, 3) := by decide +kernel
theorem dX3_valueOfReturns_20 : decode cX3_valueOfReturns 20 = .ok (.ifCond .eq 5, 3) := by decide +kernel
theorem dX3_valueOfReturns_23 : decode cX3_valueOfReturns 23 = .ok (.iconst 4, 1) := by decide +kernel
theorem dX3_valueOfReturns_24 : decode cX3_valueOfReturns 24 = .ok (.ireturn, 1) := by decide +kernel
theorem dX3_valueOfReturns_25 : decode cX3_valueOfReturns 25 = .ok (.aload_n 0, 1) := by decide +kernel
theorem dX3_valueOfReturns_26 : decode cX3_valueOfReturns 26 = .ok (.ldc_w 262, 3) := by decide +kernel
theorem dX3_valueOfReturns_29 : decode cX3_valueOfReturns 29 = .ok (.invokevirtual 92, 3) := by decide +kernel
theorem dX3_valueOfReturns_32 : decode cX3_valueOfReturns 32 = .ok (.ifCond .eq 6, 3) := by decide +kernel
theorem dX3_valueOfReturns_35 : decode cX3_valueOfReturns 35 = .ok (.bipush 8, 2) := by decide +kernel
theorem dX3_valueOfReturns_37 : decode cX3_valueOfReturns 37 = .ok (.ireturn, 1) := by decide +kernel
theorem dX3_valueOfReturns_38 : decode cX3_valueOfReturns 38 = .ok (.aload_n 0, 1) := by decide +kernel
theorem dX3_valueOfReturns_39 : decode cX3_valueOfReturns 39 = .ok (.ldc_w 258, 3) := by decide +kernel
theorem dX3_valueOfReturns_42 : decode cX3_valueOfReturns 42 = .ok (.invokevirtual 92, 3) := by decide +kernel
theorem dX3_valueOfReturns_45 : decode cX3_valueOfReturns 45 = .ok (.ifCond .eq 8, 3) := by decide +kernel
theorem dX3_valueOfReturns_48 : decode cX3_valueOfReturns 48 = .ok (.bipush 6, 2) := by decide +kernel
theorem dX3_valueOfReturns_50 : decode cX3_valueOfReturns 50 = .ok (.goto 4, 3) := by decide +kernel
theorem dX3_valueOfReturns_53 : decode cX3_valueOfReturns 53 = .ok (.iconst (-1), 1) := by decide +kernel
theorem dX3_valueOfReturns_54 : decode cX3_valueOfReturns 54 = .ok (.ireturn, 1) := by decide +kernel
theorem dX3_putPart_0 : decode cX3_putPart 0 = .ok (.aload_n 0, 1) := by decide +kernel
theorem dX3_putPart_1 : decode cX3_putPart 1 = .ok (.getfield 29, 3) := by decide +kernel
theorem dX3_putPart_4 : decode cX3_putPart 4 = .ok (.iload_n 1, 1) := by decide +kernel
theorem dX3_putPart_5 : decode cX3_putPart 5 = .ok (.invokevirtual 264, 3) := by decide +kernel
theorem dX3_putPart_8 : decode cX3_putPart 8 = .ok (.aload_n 0, 1) := by decide +kernel
theorem dX3_putPart_9 : decode cX3_putPart 9 = .ok (.iconst 0, 1) := by decide +kernel
theorem dX3_putPart_10 : decode cX3_putPart 10 = .ok (.putfield 203, 3) := by decide +kernel
theorem dX3_putPart_13 : decode cX3_putPart 13 = .ok (.iconst 1, 1) := by decide +kernel
theorem dX3_putPart_14 : decode cX3_putPart 14 = .ok (.ireturn, 1) := by decide +kernel
theorem dX3_behindPart_0 : decode cX3_behindPart 0 = .ok (.aload_n 0, 1) := by decide +kernel
theorem dX3_behindPart_1 : decode cX3_behindPart 1 = .ok (.bipush 41, 2) := by decide +kernel
theorem dX3_behindPart_3 : decode cX3_behindPart 3 = .ok (.invokevirtual 134, 3) := by decide +kernel
theorem dX3_behindPart_6 : decode cX3_behindPart 6 = .ok (.ifCond .eq 8, 3) := by decide +kernel
theorem dX3_behindPart_9 : decode cX3_behindPart 9 = .ok (.aload_n 0, 1) := by decide +kernel
theorem dX3_behindPart_10 : decode cX3_behindPart 10 = .ok (.invokevirtual 267, 3) := by decide +kernel
theorem dX3_behindPart_13 : decode cX3_behindPart 13 = .ok (.ireturn, 1) := by decide +kernel
theorem dX3_behindPart_14 : decode cX3_behindPart 14 = .ok (.aload_n 0, 1) := by decide +kernel
theorem dX3_behindPart_15 : decode cX3_behindPart 15 = .ok (.invokevirtual 270, 3) := by decide +kernel
theorem dX3_behindPart_18 : decode cX3_behindPart 18 = .ok (.istore_n 1, 1) := by decide +kernel
theorem dX3_behindPart_19 : decode cX3_behindPart 19 = .ok (.iload_n 1, 1) := by decide +kernel
theorem dX3_behindPart_20 : decode cX3_behindPart 20 = .ok (.iconst (-1), 1) := by decide +kernel
theorem dX3_behindPart_21 : decode cX3_behindPart 21 = .ok (.if_icmp .ne 9, 3) := by decide +kernel
theorem dX3_behindPart_24 : decode cX3_behindPart 24 = .ok (.aload_n 0, 1) := by decide +kernel
theorem dX3_behindPart_25 : decode cX3_behindPart 25 = .ok (.iconst 1, 1) := by decide +kernel
theorem dX3_behindPart_26 : decode cX3_behindPart 26 = .ok (.invokevirtual 131, 3) := by decide +kernel
theorem dX3_behindPart_29 : decode cX3_behindPart 29 = .ok (.ireturn, 1) := by decide +kernel
theorem dX3_behindPart_30 : decode cX3_behindPart 30 = .ok (.getstatic 273, 3) := by decide +kernel
theorem dX3_behindPart_33 : decode cX3_behindPart 33 = .ok (.iload_n 1, 1) := by decide +kernel
theorem dX3_behindPart_34 : decode cX3_behindPart 34 = .ok (.iaload, 1) := by decide +kernel
theorem dX3_behindPart_35 : decode cX3_behindPart 35 = .ok (.istore_n 2, 1) := by decide +kernel
theorem dX3_behindPart_36 : decode cX3_behindPart 36 = .ok (.aload_n 0, 1) := by decide +kernel
theorem dX3_behindPart_37 : decode cX3_behindPart 37 = .ok (.iload_n 2, 1) := by decide +kernel
theorem dX3_behindPart_38 : decode cX3_behindPart 38 = .ok (.iconst 4, 1) := by decide +kernel
theorem dX3_behindPart_39 : decode cX3_behindPart 39 = .ok (.if_icmp .ne 9, 3) := by decide +kernel
theorem dX3_behindPart_42 : decode cX3_behindPart 42 = .ok (.iload_n 2, 1) := by decide +kernel
theorem dX3_behindPart_43 : decode cX3_behindPart 43 = .ok (.iconst 1, 1) := by decide +kernel
theorem dX3_behindPart_44 : decode cX3_behindPart 44 = .ok (.iadd, 1) := by decide +kernel
theorem dX3_behindPart_45 : decode cX3_behindPart 45 = .ok (.goto 4, 3) := by decide +kernel
theorem dX3_behindPart_48 : decode cX3_behindPart 48 = .ok (.iload_n 2, 1) := by decide +kernel
theorem dX3_behindPart_49 : decode cX3_behindPart 49 = .ok (.invokevirtual 216, 3) := by decide +kernel
theorem dX3_behindPart_52 : decode cX3_behindPart 52 = .ok (.iload_n 2, 1) := by decide +kernel
theorem dX3_behindPart_53 : decode cX3_behindPart 53 = .ok (.iconst 4, 1) := by decide +kernel
theorem dX3_behindPart_54 : decode cX3_behindPart 54 = .ok (.if_icmp .ne 17, 3) := by decide +kernel
theorem dX3_behindPart_57 : decode cX3_behindPart 57 = .ok (.aload_n 0, 1) := by decide +kernel
theorem dX3_behindPart_58 : decode cX3_behindPart 58 = .ok (.invokevirtual 276, 3) := by decide +kernel
theorem dX3_behindPart_61 : decode cX3_behindPart 61 = .ok (.iload_n 2, 1) := by decide +kernel
theorem dX3_behindPart_62 : decode cX3_behindPart 62 = .ok (.if_icmp .ne 9, 3) := by decide +kernel
theorem dX3_behindPart_65 : decode cX3_behindPart 65 = .ok (.aload_n 0, 1) := by decide +kernel
theorem dX3_behindPart_66 : decode cX3_behindPart 66 = .ok (.iconst 1, 1) := by decide +kernel
theorem dX3_behindPart_67 : decode cX3_behindPart 67 = .ok (.invokevirtual 131, 3) := by decide +kernel
theorem dX3_behindPart_70 : decode cX3_behindPart 70 = .ok (.ireturn, 1) := by decide +kernel
theorem dX3_behindPart_71 : decode cX3_behindPart 71 = .ok (.aload_n 0, 1) := by decide +kernel
theorem dX3_behindPart_72 : decode cX3_behindPart 72 = .ok (.iconst 1, 1) := by decide +kernel
theorem dX3_behindPart_73 : decode cX3_behindPart 73 = .ok (.putfield 203, 3) := by decide +kernel
theorem dX3_behindPart_76 : decode cX3_behindPart 76 = .ok (.aload_n 0, 1) := by decide +kernel
theorem dX3_behindPart_77 : decode cX3_behindPart 77 = .ok (.iconst 0, 1) := by decide +kernel
theorem dX3_behindPart_78 : decode cX3_behindPart 78 = .ok (.putfield 227, 3) := by decide +kernel
theorem dX3_behindPart_81 : decode cX3_behindPart 81 = .ok (.aload_n 0, 1) := by decide +kernel
theorem dX3_behindPart_82 : decode cX3_behindPart 82 = .ok (.iload_n 1, 1) := by decide +kernel
theorem dX3_behindPart_83 : decode cX3_behindPart 83 = .ok (.iconst 1, 1) := by decide +kernel
theorem dX3_behindPart_84 : decode cX3_behindPart 84 = .ok (.if_icmp .eq 8, 3) := by decide +kernel
theorem dX3_behindPart_87 : decode cX3_behindPart 87 = .ok (.iload_n 1, 1) := by decide +kernel
theorem dX3_behindPart_88 : decode cX3_behindPart 88 = .ok (.iconst 2, 1) := by decide +kernel
theorem dX3_behindPart_89 : decode cX3_behindPart 89 = .ok (.if_icmp .ne 7, 3) := by decide +kernel
theorem dX3_behindPart_92 : decode cX3_behindPart 92 = .ok (.iconst 1, 1) := by decide +kernel
theorem dX3_behindPart_93 : decode cX3_behindPart 93 = .ok (.goto 4, 3) := by decide +kernel
theorem dX3_behindPart_96 : decode cX3_behindPart 96 = .ok (.iconst 0, 1) := by decide +kernel
theorem dX3_behindPart_97 : decode cX3_behindPart 97 = .ok (.putfield 230, 3) := by decide +kernel
theorem dX3_behindPart_100 : decode cX3_behindPart 100 = .ok (.aload_n 0, 1) := by decide +kernel
theorem dX3_behindPart_101 : decode cX3_behindPart 101 = .ok (.iload_n 1, 1) := by decide +kernel
theorem dX3_behindPart_102 : decode cX3_behindPart 102 = .ok (.invokevirtual 239, 3) := by decide +kernel
theorem dX3_behindPart_105 : decode cX3_behindPart 105 = .ok (.ireturn, 1) := by decide +kernel
theorem dX3_close_0 : decode cX3_close 0 = .ok (.aload_n 0, 1) := by decide +kernel
theorem dX3_close_1 : decode cX3_close 1 = .ok (.getfield 206, 3) := by decide +kernel
theorem dX3_close_4 : decode cX3_close 4 = .ok (.iconst 1, 1) := by decide +kernel
theorem dX3_close_5 : decode cX3_close 5 = .ok (.if_icmp .lt 11, 3) := by decide +kernel
theorem dX3_close_8 : decode cX3_close 8 = .ok (.aload_n 0, 1) := by decide +kernel
theorem dX3_close_9 : decode cX3_close 9 = .ok (.getfield 224, 3) := by decide +kernel
theorem dX3_close_12 : decode cX3_close 12 = .ok (.iconst 1, 1) := by decide +kernel
theorem dX3_close_13 : decode cX3_close 13 = .ok (.if_icmp .ge 9, 3) := by decide +kernel
theorem dX3_close_16 : decode cX3_close 16 = .ok (.aload_n 0, 1) := by decide +kernel
theorem dX3_close_17 : decode cX3_close 17 = .ok (.iconst 1, 1) := by decide +kernel
theorem dX3_close_18 : decode cX3_close 18 = .ok (.invokevirtual 131, 3) := by decide +kernel
theorem dX3_close_21 : decode cX3_close 21 = .ok (.ireturn, 1) := by decide +kernel
theorem dX3_close_22 : decode cX3_close 22 = .ok (.aload_n 0, 1) := by decide +kernel
theorem dX3_close_23 : decode cX3_close 23 = .ok (.dup, 1) := by decide +kernel
theorem dX3_close_24 : decode cX3_close 24 = .ok (.getfield 206, 3) := by decide +kernel
theorem dX3_close_27 : decode cX3_close 27 = .ok (.iconst 1, 1) := by decide +kernel
theorem dX3_close_28 : decode cX3_close 28 = .ok (.isub, 1) := by decide +kernel
theorem dX3_close_29 : decode cX3_close 29 = .ok (.putfield 206, 3) := by decide +kernel
theorem dX3_close_32 : decode cX3_close 32 = .ok (.aload_n 0, 1) := by decide +kernel
theorem dX3_close_33 : decode cX3_close 33 = .ok (.iconst 1, 1) := by decide +kernel
theorem dX3_close_34 : decode cX3_close 34 = .ok (.invokevirtual 216, 3) := by decide +kernel
theorem dX3_close_37 : decode cX3_close 37 = .ok (.aload_n 0, 1) := by decide +kernel
theorem dX3_close_38 : decode cX3_close 38 = .ok (.getfield 224, 3) := by decide +kernel
theorem dX3_close_41 : decode cX3_close 41 = .ok (.ifCond .le 13, 3) := by decide +kernel
theorem dX3_close_44 : decode cX3_close 44 = .ok (.aload_n 0, 1) := by decide +kernel
theorem dX3_close_45 : decode cX3_close 45 = .ok (.dup, 1) := by decide +kernel
theorem dX3_close_46 : decode cX3_close 46 = .ok (.getfield 224, 3) := by decide +kernel
theorem dX3_close_49 : decode cX3_close 49 = .ok (.iconst 1, 1) := by decide +kernel
theorem dX3_close_50 : decode cX3_close 50 = .ok (.isub, 1) := by decide +kernel
theorem dX3_close_51 : decode cX3_close 51 = .ok (.putfield 224, 3) := by decide +kernel
theorem dX3_close_54 : decode cX3_close 54 = .ok (.iconst 1, 1) := by decide +kernel
theorem dX3_close_55 : decode cX3_close 55 = .ok (.ireturn, 1) := by decide +kernel
theorem dX3_operatorRead_0 : decode cX3_operatorRead 0 = .ok (.aload_n 0, 1) := by decide +kernel
theorem dX3_operatorRead_1 : decode cX3_operatorRead 1 = .ok (.getfield 57, 3) := by decide +kernel
theorem dX3_operatorRead_4 : decode cX3_operatorRead 4 = .ok (.iconst 1, 1) := by decide +kernel
theorem dX3_operatorRead_5 : decode cX3_operatorRead 5 = .ok (.if_icmp .ne 31, 3) := by decide +kernel
theorem dX3_operatorRead_8 : decode cX3_operatorRead 8 = .ok (.aload_n 0, 1) := by decide +kernel
theorem dX3_operatorRead_9 : decode cX3_operatorRead 9 = .ok (.ldc_w 279, 3) := by decide +kernel
theorem dX3_operatorRead_12 : decode cX3_operatorRead 12 = .ok (.invokevirtual 92, 3) := by decide +kernel
theorem dX3_operatorRead_15 : decode cX3_operatorRead 15 = .ok (.ifCond .eq 5, 3) := by decide +kernel
theorem dX3_operatorRead_18 : decode cX3_operatorRead 18 = .ok (.iconst 1, 1) := by decide +kernel
theorem dX3_operatorRead_19 : decode cX3_operatorRead 19 = .ok (.ireturn, 1) := by decide +kernel
theorem dX3_operatorRead_20 : decode cX3_operatorRead 20 = .ok (.aload_n 0, 1) := by decide +kernel
theorem dX3_operatorRead_21 : decode cX3_operatorRead 21 = .ok (.ldc_w 281, 3) := by decide +kernel
theorem dX3_operatorRead_24 : decode cX3_operatorRead 24 = .ok (.invokevirtual 92, 3) := by decide +kernel
theorem dX3_operatorRead_27 : decode cX3_operatorRead 27 = .ok (.ifCond .eq 7, 3) := by decide +kernel
theorem dX3_operatorRead_30 : decode cX3_operatorRead 30 = .ok (.iconst 2, 1) := by decide +kernel
theorem dX3_operatorRead_31 : decode cX3_operatorRead 31 = .ok (.goto 4, 3) := by decide +kernel
theorem dX3_operatorRead_34 : decode cX3_operatorRead 34 = .ok (.iconst (-1), 1) := by decide +kernel
theorem dX3_operatorRead_35 : decode cX3_operatorRead 35 = .ok (.ireturn, 1) := by decide +kernel
theorem dX3_operatorRead_36 : decode cX3_operatorRead 36 = .ok (.aload_n 0, 1) := by decide +kernel
theorem dX3_operatorRead_37 : decode cX3_operatorRead 37 = .ok (.getfield 57, 3) := by decide +kernel
theorem dX3_operatorRead_40 : decode cX3_operatorRead 40 = .ok (.iconst 3, 1) := by decide +kernel
theorem dX3_operatorRead_41 : decode cX3_operatorRead 41 = .ok (.if_icmp .eq 5, 3) := by decide +kernel
theorem dX3_operatorRead_44 : decode cX3_operatorRead 44 = .ok (.iconst (-1), 1) := by decide +kernel
theorem dX3_operatorRead_45 : decode cX3_operatorRead 45 = .ok (.ireturn, 1) := by decide +kernel
theorem dX3_operatorRead_46 : decode cX3_operatorRead 46 = .ok (.aload_n 0, 1) := by decide +kernel
theorem dX3_operatorRead_47 : decode cX3_operatorRead 47 = .ok (.getfield 9, 3) := by decide +kernel
theorem dX3_operatorRead_50 : decode cX3_operatorRead 50 = .ok (.aload_n 0, 1) := by decide +kernel
theorem dX3_operatorRead_51 : decode cX3_operatorRead 51 = .ok (.getfield 60, 3) := by decide +kernel
theorem dX3_operatorRead_54 : decode cX3_operatorRead 54 = .ok (.baload, 1) := by decide +kernel
theorem dX3_operatorRead_55 : decode cX3_operatorRead 55 = .ok (.tableswitch 109 42 61 #[103, 97, 109, 100, 109, 106, 109, 109, 109, 109, 109, 109, 109, 109, 109, 109, 109, 109, 93, 95], 93) := by decide +kernel
theorem dX3_operatorRead_148 : decode cX3_operatorRead 148 = .ok (.iconst 4, 1) := by decide +kernel
theorem dX3_operatorRead_149 : decode cX3_operatorRead 149 = .ok (.ireturn, 1) := by decide +kernel
theorem dX3_operatorRead_150 : decode cX3_operatorRead 150 = .ok (.iconst 5, 1) := by decide +kernel
theorem dX3_operatorRead_151 : decode cX3_operatorRead 151 = .ok (.ireturn, 1) := by decide +kernel
theorem dX3_operatorRead_152 : decode cX3_operatorRead 152 = .ok (.bipush 6, 2) := by decide +kernel
theorem dX3_operatorRead_154 : decode cX3_operatorRead 154 = .ok (.ireturn, 1) := by decide +kernel
theorem dX3_operatorRead_155 : decode cX3_operatorRead 155 = .ok (.bipush 7, 2) := by decide +kernel
theorem dX3_operatorRead_157 : decode cX3_operatorRead 157 = .ok (.ireturn, 1) := by decide +kernel
theorem dX3_operatorRead_158 : decode cX3_operatorRead 158 = .ok (.bipush 8, 2) := by decide +kernel
theorem dX3_operatorRead_160 : decode cX3_operatorRead 160 = .ok (.ireturn, 1) := by decide +kernel
theorem dX3_operatorRead_161 : decode cX3_operatorRead 161 = .ok (.bipush 9, 2) := by decide +kernel
theorem dX3_operatorRead_163 : decode cX3_operatorRead 163 = .ok (.ireturn, 1) := by decide +kernel
theorem dX3_operatorRead_164 : decode cX3_operatorRead 164 = .ok (.iconst (-1), 1) := by decide +kernel
theorem dX3_operatorRead_165 : decode cX3_operatorRead 165 = .ok (.ireturn, 1) := by decide +kernel
theorem dX3_await_0 : decode cX3_await 0 = .ok (.aload_n 0, 1) := by decide +kernel
theorem dX3_await_1 : decode cX3_await 1 = .ok (.getfield 224, 3) := by decide +kernel
theorem dX3_await_4 : decode cX3_await 4 = .ok (.sipush 128, 3) := by decide +kernel
theorem dX3_await_7 : decode cX3_await 7 = .ok (.if_icmp .lt 9, 3) := by decide +kernel
theorem dX3_await_10 : decode cX3_await 10 = .ok (.aload_n 0, 1) := by decide +kernel
theorem dX3_await_11 : decode cX3_await 11 = .ok (.iconst 2, 1) := by decide +kernel
theorem dX3_await_12 : decode cX3_await 12 = .ok (.invokevirtual 131, 3) := by decide +kernel
theorem dX3_await_15 : decode cX3_await 15 = .ok (.ireturn, 1) := by decide +kernel
theorem dX3_await_16 : decode cX3_await 16 = .ok (.aload_n 0, 1) := by decide +kernel
theorem dX3_await_17 : decode cX3_await 17 = .ok (.getfield 15, 3) := by decide +kernel
theorem dX3_await_20 : decode cX3_await 20 = .ok (.aload_n 0, 1) := by decide +kernel
theorem dX3_await_21 : decode cX3_await 21 = .ok (.getfield 224, 3) := by decide +kernel
theorem dX3_await_24 : decode cX3_await 24 = .ok (.iload_n 1, 1) := by decide +kernel
theorem dX3_await_25 : decode cX3_await 25 = .ok (.iastore, 1) := by decide +kernel
theorem dX3_await_26 : decode cX3_await 26 = .ok (.aload_n 0, 1) := by decide +kernel
theorem dX3_await_27 : decode cX3_await 27 = .ok (.dup, 1) := by decide +kernel
theorem dX3_await_28 : decode cX3_await 28 = .ok (.getfield 224, 3) := by decide +kernel
theorem dX3_await_31 : decode cX3_await 31 = .ok (.iconst 1, 1) := by decide +kernel
theorem dX3_await_32 : decode cX3_await 32 = .ok (.iadd, 1) := by decide +kernel
theorem dX3_await_33 : decode cX3_await 33 = .ok (.putfield 224, 3) := by decide +kernel
theorem dX3_await_36 : decode cX3_await 36 = .ok (.iconst 1, 1) := by decide +kernel
theorem dX3_await_37 : decode cX3_await 37 = .ok (.ireturn, 1) := by decide +kernel
theorem dX3_bindingOnTop_0 : decode cX3_bindingOnTop 0 = .ok (.aload_n 0, 1) := by decide +kernel
theorem dX3_bindingOnTop_1 : decode cX3_bindingOnTop 1 = .ok (.getfield 224, 3) := by decide +kernel
theorem dX3_bindingOnTop_4 : decode cX3_bindingOnTop 4 = .ok (.ifCond .le 21, 3) := by decide +kernel
theorem dX3_bindingOnTop_7 : decode cX3_bindingOnTop 7 = .ok (.getstatic 273, 3) := by decide +kernel
theorem dX3_bindingOnTop_10 : decode cX3_bindingOnTop 10 = .ok (.aload_n 0, 1) := by decide +kernel
theorem dX3_bindingOnTop_11 : decode cX3_bindingOnTop 11 = .ok (.getfield 15, 3) := by decide +kernel
theorem dX3_bindingOnTop_14 : decode cX3_bindingOnTop 14 = .ok (.aload_n 0, 1) := by decide +kernel
theorem dX3_bindingOnTop_15 : decode cX3_bindingOnTop 15 = .ok (.getfield 224, 3) := by decide +kernel
theorem dX3_bindingOnTop_18 : decode cX3_bindingOnTop 18 = .ok (.iconst 1, 1) := by decide +kernel
theorem dX3_bindingOnTop_19 : decode cX3_bindingOnTop 19 = .ok (.isub, 1) := by decide +kernel
theorem dX3_bindingOnTop_20 : decode cX3_bindingOnTop 20 = .ok (.iaload, 1) := by decide +kernel
theorem dX3_bindingOnTop_21 : decode cX3_bindingOnTop 21 = .ok (.iaload, 1) := by decide +kernel
theorem dX3_bindingOnTop_22 : decode cX3_bindingOnTop 22 = .ok (.goto 4, 3) := by decide +kernel
theorem dX3_bindingOnTop_25 : decode cX3_bindingOnTop 25 = .ok (.iconst 0, 1) := by decide +kernel
theorem dX3_bindingOnTop_26 : decode cX3_bindingOnTop 26 = .ok (.ireturn, 1) := by decide +kernel
theorem dX3_putTighter_0 : decode cX3_putTighter 0 = .ok (.iload_n 1, 1) := by decide +kernel
theorem dX3_putTighter_1 : decode cX3_putTighter 1 = .ok (.iconst 1, 1) := by decide +kernel
theorem dX3_putTighter_2 : decode cX3_putTighter 2 = .ok (.invokestatic 283, 3) := by decide +kernel
theorem dX3_putTighter_5 : decode cX3_putTighter 5 = .ok (.istore_n 2, 1) := by decide +kernel
theorem dX3_putTighter_6 : decode cX3_putTighter 6 = .ok (.aload_n 0, 1) := by decide +kernel
theorem dX3_putTighter_7 : decode cX3_putTighter 7 = .ok (.getfield 224, 3) := by decide +kernel
theorem dX3_putTighter_10 : decode cX3_putTighter 10 = .ok (.ifCond .le 44, 3) := by decide +kernel
theorem dX3_putTighter_13 : decode cX3_putTighter 13 = .ok (.aload_n 0, 1) := by decide +kernel
theorem dX3_putTighter_14 : decode cX3_putTighter 14 = .ok (.invokevirtual 276, 3) := by decide +kernel
theorem dX3_putTighter_17 : decode cX3_putTighter 17 = .ok (.iload_n 2, 1) := by decide +kernel
theorem dX3_putTighter_18 : decode cX3_putTighter 18 = .ok (.if_icmp .lt 36, 3) := by decide +kernel
theorem dX3_putTighter_21 : decode cX3_putTighter 21 = .ok (.aload_n 0, 1) := by decide +kernel
theorem dX3_putTighter_22 : decode cX3_putTighter 22 = .ok (.dup, 1) := by decide +kernel
theorem dX3_putTighter_23 : decode cX3_putTighter 23 = .ok (.getfield 224, 3) := by decide +kernel
theorem dX3_putTighter_26 : decode cX3_putTighter 26 = .ok (.iconst 1, 1) := by decide +kernel
theorem dX3_putTighter_27 : decode cX3_putTighter 27 = .ok (.isub, 1) := by decide +kernel
theorem dX3_putTighter_28 : decode cX3_putTighter 28 = .ok (.putfield 224, 3) := by decide +kernel
theorem dX3_putTighter_31 : decode cX3_putTighter 31 = .ok (.aload_n 0, 1) := by decide +kernel
theorem dX3_putTighter_32 : decode cX3_putTighter 32 = .ok (.getfield 29, 3) := by decide +kernel
theorem dX3_putTighter_35 : decode cX3_putTighter 35 = .ok (.sipush 20000, 3) := by decide +kernel
theorem dX3_putTighter_38 : decode cX3_putTighter 38 = .ok (.aload_n 0, 1) := by decide +kernel
theorem dX3_putTighter_39 : decode cX3_putTighter 39 = .ok (.getfield 15, 3) := by decide +kernel
theorem dX3_putTighter_42 : decode cX3_putTighter 42 = .ok (.aload_n 0, 1) := by decide +kernel
theorem dX3_putTighter_43 : decode cX3_putTighter 43 = .ok (.getfield 224, 3) := by decide +kernel
theorem dX3_putTighter_46 : decode cX3_putTighter 46 = .ok (.iaload, 1) := by decide +kernel
theorem dX3_putTighter_47 : decode cX3_putTighter 47 = .ok (.iadd, 1) := by decide +kernel
theorem dX3_putTighter_48 : decode cX3_putTighter 48 = .ok (.invokevirtual 264, 3) := by decide +kernel
theorem dX3_putTighter_51 : decode cX3_putTighter 51 = .ok (.goto (-45), 3) := by decide +kernel
theorem dX3_putTighter_54 : decode cX3_putTighter 54 = .ok (.return_, 1) := by decide +kernel
theorem dX5_init_0 : decode cX5_init 0 = .ok (.aload_n 0, 1) := by decide +kernel
theorem dX5_init_1 : decode cX5_init 1 = .ok (.invokespecial 3, 3) := by decide +kernel
theorem dX5_init_4 : decode cX5_init 4 = .ok (.aload_n 0, 1) := by decide +kernel
theorem dX5_init_5 : decode cX5_init 5 = .ok (.bipush 8, 2) := by decide +kernel
theorem dX5_init_7 : decode cX5_init 7 = .ok (.newarray .int, 2) := by decide +kernel
theorem dX5_init_9 : decode cX5_init 9 = .ok (.putfield 9, 3) := by decide +kernel
theorem dX5_init_12 : decode cX5_init 12 = .ok (.aload_n 0, 1) := by decide +kernel
theorem dX5_init_13 : decode cX5_init 13 = .ok (.sipush 256, 3) := by decide +kernel
theorem dX5_init_16 : decode cX5_init 16 = .ok (.newarray .int, 2) := by decide +kernel
theorem dX5_init_18 : decode cX5_init 18 = .ok (.putfield 15, 3) := by decide +kernel
theorem dX5_init_21 : decode cX5_init 21 = .ok (.aload_n 0, 1) := by decide +kernel
theorem dX5_init_22 : decode cX5_init 22 = .ok (.bipush 10, 2) := by decide +kernel
theorem dX5_init_24 : decode cX5_init 24 = .ok (.newarray .int, 2) := by decide +kernel
theorem dX5_init_26 : decode cX5_init 26 = .ok (.putfield 18, 3) := by decide +kernel
theorem dX5_init_29 : decode cX5_init 29 = .ok (.return_, 1) := by decide +kernel
theorem dX5_rings_0 : decode cX5_rings 0 = .ok (.iconst 0, 1) := by decide +kernel
theorem dX5_rings_1 : decode cX5_rings 1 = .ok (.istore_n 2, 1) := by decide +kernel
theorem dX5_rings_2 : decode cX5_rings 2 = .ok (.iconst 0, 1) := by decide +kernel
theorem dX5_rings_3 : decode cX5_rings 3 = .ok (.istore_n 3, 1) := by decide +kernel
theorem dX5_rings_4 : decode cX5_rings 4 = .ok (.iload_n 3, 1) := by decide +kernel
theorem dX5_rings_5 : decode cX5_rings 5 = .ok (.aload_n 1, 1) := by decide +kernel
theorem dX5_rings_6 : decode cX5_rings 6 = .ok (.getfield 21, 3) := by decide +kernel
theorem dX5_rings_9 : decode cX5_rings 9 = .ok (.getfield 27, 3) := by decide +kernel
theorem dX5_rings_12 : decode cX5_rings 12 = .ok (.if_icmp .ge 22, 3) := by decide +kernel
theorem dX5_rings_15 : decode cX5_rings 15 = .ok (.iload_n 2, 1) := by decide +kernel
theorem dX5_rings_16 : decode cX5_rings 16 = .ok (.aload_n 0, 1) := by decide +kernel
theorem dX5_rings_17 : decode cX5_rings 17 = .ok (.aload_n 1, 1) := by decide +kernel
theorem dX5_rings_18 : decode cX5_rings 18 = .ok (.iload_n 3, 1) := by decide +kernel
theorem dX5_rings_19 : decode cX5_rings 19 = .ok (.invokevirtual 33, 3) := by decide +kernel
theorem dX5_rings_22 : decode cX5_rings 22 = .ok (.iconst 1, 1) := by decide +kernel
theorem dX5_rings_23 : decode cX5_rings 23 = .ok (.iload_n 3, 1) := by decide +kernel
theorem dX5_rings_24 : decode cX5_rings 24 = .ok (.ishl, 1) := by decide +kernel
theorem dX5_rings_25 : decode cX5_rings 25 = .ok (.iand, 1) := by decide +kernel
theorem dX5_rings_26 : decode cX5_rings 26 = .ok (.ior, 1) := by decide +kernel
theorem dX5_rings_27 : decode cX5_rings 27 = .ok (.istore_n 2, 1) := by decide +kernel
theorem dX5_rings_28 : decode cX5_rings 28 = .ok (.iinc 3 1, 3) := by decide +kernel
theorem dX5_rings_31 : decode cX5_rings 31 = .ok (.goto (-27), 3) := by decide +kernel
theorem dX5_rings_34 : decode cX5_rings 34 = .ok (.iload_n 2, 1) := by decide +kernel
theorem dX5_rings_35 : decode cX5_rings 35 = .ok (.ireturn, 1) := by decide +kernel
theorem dX5_cameTo_0 : decode cX5_cameTo 0 = .ok (.iconst 0, 1) := by decide +kernel
theorem dX5_cameTo_1 : decode cX5_cameTo 1 = .ok (.istore_n 3, 1) := by decide +kernel
theorem dX5_cameTo_2 : decode cX5_cameTo 2 = .ok (.iload_n 3, 1) := by decide +kernel
theorem dX5_cameTo_3 : decode cX5_cameTo 3 = .ok (.aload_n 1, 1) := by decide +kernel
theorem dX5_cameTo_4 : decode cX5_cameTo 4 = .ok (.getfield 21, 3) := by decide +kernel
theorem dX5_cameTo_7 : decode cX5_cameTo 7 = .ok (.getfield 27, 3) := by decide +kernel
theorem dX5_cameTo_10 : decode cX5_cameTo 10 = .ok (.if_icmp .ge 24, 3) := by decide +kernel
theorem dX5_cameTo_13 : decode cX5_cameTo 13 = .ok (.aload_n 0, 1) := by decide +kernel
theorem dX5_cameTo_14 : decode cX5_cameTo 14 = .ok (.getfield 9, 3) := by decide +kernel
theorem dX5_cameTo_17 : decode cX5_cameTo 17 = .ok (.iload_n 3, 1) := by decide +kernel
theorem dX5_cameTo_18 : decode cX5_cameTo 18 = .ok (.aload_n 1, 1) := by decide +kernel
theorem dX5_cameTo_19 : decode cX5_cameTo 19 = .ok (.aload_n 1, 1) := by decide +kernel
theorem dX5_cameTo_20 : decode cX5_cameTo 20 = .ok (.iload_n 3, 1) := by decide +kernel
theorem dX5_cameTo_21 : decode cX5_cameTo 21 = .ok (.invokevirtual 37, 3) := by decide +kernel
theorem dX5_cameTo_24 : decode cX5_cameTo 24 = .ok (.invokestatic 41, 3) := by decide +kernel
theorem dX5_cameTo_27 : decode cX5_cameTo 27 = .ok (.iastore, 1) := by decide +kernel
theorem dX5_cameTo_28 : decode cX5_cameTo 28 = .ok (.iinc 3 1, 3) := by decide +kernel
theorem dX5_cameTo_31 : decode cX5_cameTo 31 = .ok (.goto (-29), 3) := by decide +kernel
theorem dX5_cameTo_34 : decode cX5_cameTo 34 = .ok (.aload_n 0, 1) := by decide +kernel
theorem dX5_cameTo_35 : decode cX5_cameTo 35 = .ok (.getfield 9, 3) := by decide +kernel
theorem dX5_cameTo_38 : decode cX5_cameTo 38 = .ok (.iload_n 2, 1) := by decide +kernel
theorem dX5_cameTo_39 : decode cX5_cameTo 39 = .ok (.iaload, 1) := by decide +kernel
theorem dX5_cameTo_40 : decode cX5_cameTo 40 = .ok (.istore_n 3, 1) := by decide +kernel
theorem dX5_cameTo_41 : decode cX5_cameTo 41 = .ok (.iconst 0, 1) := by decide +kernel
theorem dX5_cameTo_42 : decode cX5_cameTo 42 = .ok (.istore 4, 2) := by decide +kernel
theorem dX5_cameTo_44 : decode cX5_cameTo 44 = .ok (.iload 4, 2) := by decide +kernel
theorem dX5_cameTo_46 : decode cX5_cameTo 46 = .ok (.aload_n 1, 1) := by decide +kernel
theorem dX5_cameTo_47 : decode cX5_cameTo 47 = .ok (.getfield 21, 3) := by decide +kernel
theorem dX5_cameTo_50 : decode cX5_cameTo 50 = .ok (.getfield 27, 3) := by decide +kernel
theorem dX5_cameTo_53 : decode cX5_cameTo 53 = .ok (.if_icmp .ge 49, 3) := by decide +kernel
theorem dX5_cameTo_56 : decode cX5_cameTo 56 = .ok (.iconst 0, 1) := by decide +kernel
theorem dX5_cameTo_57 : decode cX5_cameTo 57 = .ok (.istore 5, 2) := by decide +kernel
theorem dX5_cameTo_59 : decode cX5_cameTo 59 = .ok (.iload 5, 2) := by decide +kernel
theorem dX5_cameTo_61 : decode cX5_cameTo 61 = .ok (.aload_n 1, 1) := by decide +kernel
theorem dX5_cameTo_62 : decode cX5_cameTo 62 = .ok (.getfield 21, 3) := by decide +kernel
theorem dX5_cameTo_65 : decode cX5_cameTo 65 = .ok (.getfield 27, 3) := by decide +kernel
theorem dX5_cameTo_68 : decode cX5_cameTo 68 = .ok (.if_icmp .ge 28, 3) := by decide +kernel
theorem dX5_cameTo_71 : decode cX5_cameTo 71 = .ok (.iload_n 3, 1) := by decide +kernel
theorem dX5_cameTo_72 : decode cX5_cameTo 72 = .ok (.iload 5, 2) := by decide +kernel
theorem dX5_cameTo_74 : decode cX5_cameTo 74 = .ok (.ishr, 1) := by decide +kernel
theorem dX5_cameTo_75 : decode cX5_cameTo 75 = .ok (.iconst 1, 1) := by decide +kernel
theorem dX5_cameTo_76 : decode cX5_cameTo 76 = .ok (.iand, 1) := by decide +kernel
theorem dX5_cameTo_77 : decode cX5_cameTo 77 = .ok (.ifCond .eq 13, 3) := by decide +kernel
theorem dX5_cameTo_80 : decode cX5_cameTo 80 = .ok (.iload_n 3, 1) := by decide +kernel
theorem dX5_cameTo_81 : decode cX5_cameTo 81 = .ok (.aload_n 0, 1) := by decide +kernel
theorem dX5_cameTo_82 : decode cX5_cameTo 82 = .ok (.getfield 9, 3) := by decide +kernel
theorem dX5_cameTo_85 : decode cX5_cameTo 85 = .ok (.iload 5, 2) := by decide +kernel
theorem dX5_cameTo_87 : decode cX5_cameTo 87 = .ok (.iaload, 1) := by decide +kernel
theorem dX5_cameTo_88 : decode cX5_cameTo 88 = .ok (.ior, 1) := by decide +kernel
theorem dX5_cameTo_89 : decode cX5_cameTo 89 = .ok (.istore_n 3, 1) := by decide +kernel
theorem dX5_cameTo_90 : decode cX5_cameTo 90 = .ok (.iinc 5 1, 3) := by decide +kernel
theorem dX5_cameTo_93 : decode cX5_cameTo 93 = .ok (.goto (-34), 3) := by decide +kernel
theorem dX5_cameTo_96 : decode cX5_cameTo 96 = .ok (.iinc 4 1, 3) := by decide +kernel
theorem dX5_cameTo_99 : decode cX5_cameTo 99 = .ok (.goto (-55), 3) := by decide +kernel
theorem dX5_cameTo_102 : decode cX5_cameTo 102 = .ok (.iload_n 3, 1) := by decide +kernel
theorem dX5_cameTo_103 : decode cX5_cameTo 103 = .ok (.ireturn, 1) := by decide +kernel
theorem dX5_ownersOf_0 : decode cX5_ownersOf 0 = .ok (.iconst 0, 1) := by decide +kernel
theorem dX5_ownersOf_1 : decode cX5_ownersOf 1 = .ok (.istore_n 2, 1) := by decide +kernel
theorem dX5_ownersOf_2 : decode cX5_ownersOf 2 = .ok (.iconst 0, 1) := by decide +kernel
theorem dX5_ownersOf_3 : decode cX5_ownersOf 3 = .ok (.istore_n 3, 1) := by decide +kernel
theorem dX5_ownersOf_4 : decode cX5_ownersOf 4 = .ok (.iload_n 3, 1) := by decide +kernel
theorem dX5_ownersOf_5 : decode cX5_ownersOf 5 = .ok (.aload_n 0, 1) := by decide +kernel
theorem dX5_ownersOf_6 : decode cX5_ownersOf 6 = .ok (.getfield 21, 3) := by decide +kernel
theorem dX5_ownersOf_9 : decode cX5_ownersOf 9 = .ok (.getfield 44, 3) := by decide +kernel
theorem dX5_ownersOf_12 : decode cX5_ownersOf 12 = .ok (.if_icmp .ge 28, 3) := by decide +kernel
theorem dX5_ownersOf_15 : decode cX5_ownersOf 15 = .ok (.iload_n 1, 1) := by decide +kernel
theorem dX5_ownersOf_16 : decode cX5_ownersOf 16 = .ok (.iload_n 3, 1) := by decide +kernel
theorem dX5_ownersOf_17 : decode cX5_ownersOf 17 = .ok (.ishr, 1) := by decide +kernel
theorem dX5_ownersOf_18 : decode cX5_ownersOf 18 = .ok (.iconst 1, 1) := by decide +kernel
theorem dX5_ownersOf_19 : decode cX5_ownersOf 19 = .ok (.iand, 1) := by decide +kernel
theorem dX5_ownersOf_20 : decode cX5_ownersOf 20 = .ok (.ifCond .eq 14, 3) := by decide +kernel
theorem dX5_ownersOf_23 : decode cX5_ownersOf 23 = .ok (.iload_n 2, 1) := by decide +kernel
theorem dX5_ownersOf_24 : decode cX5_ownersOf 24 = .ok (.iconst 1, 1) := by decide +kernel
theorem dX5_ownersOf_25 : decode cX5_ownersOf 25 = .ok (.aload_n 0, 1) := by decide +kernel
theorem dX5_ownersOf_26 : decode cX5_ownersOf 26 = .ok (.getfield 47, 3) := by decide +kernel
theorem dX5_ownersOf_29 : decode cX5_ownersOf 29 = .ok (.iload_n 3, 1) := by decide +kernel
theorem dX5_ownersOf_30 : decode cX5_ownersOf 30 = .ok (.iaload, 1) := by decide +kernel
theorem dX5_ownersOf_31 : decode cX5_ownersOf 31 = .ok (.ishl, 1) := by decide +kernel
theorem dX5_ownersOf_32 : decode cX5_ownersOf 32 = .ok (.ior, 1) := by decide +kernel
theorem dX5_ownersOf_33 : decode cX5_ownersOf 33 = .ok (.istore_n 2, 1) := by decide +kernel
theorem dX5_ownersOf_34 : decode cX5_ownersOf 34 = .ok (.iinc 3 1, 3) := by decide +kernel
theorem dX5_ownersOf_37 : decode cX5_ownersOf 37 = .ok (.goto (-33), 3) := by decide +kernel
theorem dX5_ownersOf_40 : decode cX5_ownersOf 40 = .ok (.iload_n 2, 1) := by decide +kernel
theorem dX5_ownersOf_41 : decode cX5_ownersOf 41 = .ok (.ireturn, 1) := by decide +kernel
theorem dX5_fewestPlaces_0 : decode cX5_fewestPlaces 0 = .ok (.iconst 0, 1) := by decide +kernel
theorem dX5_fewestPlaces_1 : decode cX5_fewestPlaces 1 = .ok (.istore_n 3, 1) := by decide +kernel
theorem dX5_fewestPlaces_2 : decode cX5_fewestPlaces 2 = .ok (.iload_n 3, 1) := by decide +kernel
theorem dX5_fewestPlaces_3 : decode cX5_fewestPlaces 3 = .ok (.aload_n 1, 1) := by decide +kernel
theorem dX5_fewestPlaces_4 : decode cX5_fewestPlaces 4 = .ok (.getfield 21, 3) := by decide +kernel
theorem dX5_fewestPlaces_7 : decode cX5_fewestPlaces 7 = .ok (.getfield 27, 3) := by decide +kernel
theorem dX5_fewestPlaces_10 : decode cX5_fewestPlaces 10 = .ok (.if_icmp .ge 33, 3) := by decide +kernel
theorem dX5_fewestPlaces_13 : decode cX5_fewestPlaces 13 = .ok (.aload_n 0, 1) := by decide +kernel
theorem dX5_fewestPlaces_14 : decode cX5_fewestPlaces 14 = .ok (.getfield 9, 3) := by decide +kernel
theorem dX5_fewestPlaces_17 : decode cX5_fewestPlaces 17 = .ok (.iload_n 3, 1) := by decide +kernel
theorem dX5_fewestPlaces_18 : decode cX5_fewestPlaces 18 = .ok (.aload_n 1, 1) := by decide +kernel
theorem dX5_fewestPlaces_19 : decode cX5_fewestPlaces 19 = .ok (.iload_n 3, 1) := by decide +kernel
theorem dX5_fewestPlaces_20 : decode cX5_fewestPlaces 20 = .ok (.invokevirtual 37, 3) := by decide +kernel
theorem dX5_fewestPlaces_23 : decode cX5_fewestPlaces 23 = .ok (.ifCond .ne 7, 3) := by decide +kernel
theorem dX5_fewestPlaces_26 : decode cX5_fewestPlaces 26 = .ok (.iconst (-1), 1) := by decide +kernel
theorem dX5_fewestPlaces_27 : decode cX5_fewestPlaces 27 = .ok (.goto 9, 3) := by decide +kernel
theorem dX5_fewestPlaces_30 : decode cX5_fewestPlaces 30 = .ok (.aload_n 1, 1) := by decide +kernel
theorem dX5_fewestPlaces_31 : decode cX5_fewestPlaces 31 = .ok (.iload_n 3, 1) := by decide +kernel
theorem dX5_fewestPlaces_32 : decode cX5_fewestPlaces 32 = .ok (.iload_n 2, 1) := by decide +kernel
theorem dX5_fewestPlaces_33 : decode cX5_fewestPlaces 33 = .ok (.invokestatic 50, 3) := by decide +kernel
theorem dX5_fewestPlaces_36 : decode cX5_fewestPlaces 36 = .ok (.iastore, 1) := by decide +kernel
theorem dX5_fewestPlaces_37 : decode cX5_fewestPlaces 37 = .ok (.iinc 3 1, 3) := by decide +kernel
theorem dX5_fewestPlaces_40 : decode cX5_fewestPlaces 40 = .ok (.goto (-38), 3) := by decide +kernel
theorem dX5_fewestPlaces_43 : decode cX5_fewestPlaces 43 = .ok (.iconst 1, 1) := by decide +kernel
theorem dX5_fewestPlaces_44 : decode cX5_fewestPlaces 44 = .ok (.aload_n 1, 1) := by decide +kernel
theorem dX5_fewestPlaces_45 : decode cX5_fewestPlaces 45 = .ok (.getfield 21, 3) := by decide +kernel
theorem dX5_fewestPlaces_48 : decode cX5_fewestPlaces 48 = .ok (.getfield 54, 3) := by decide +kernel
theorem dX5_fewestPlaces_51 : decode cX5_fewestPlaces 51 = .ok (.ishl, 1) := by decide +kernel
theorem dX5_fewestPlaces_52 : decode cX5_fewestPlaces 52 = .ok (.iconst 1, 1) := by decide +kernel
theorem dX5_fewestPlaces_53 : decode cX5_fewestPlaces 53 = .ok (.isub, 1) := by decide +kernel
theorem dX5_fewestPlaces_54 : decode cX5_fewestPlaces 54 = .ok (.istore_n 3, 1) := by decide +kernel
theorem dX5_fewestPlaces_55 : decode cX5_fewestPlaces 55 = .ok (.iload_n 3, 1) := by decide +kernel
theorem dX5_fewestPlaces_56 : decode cX5_fewestPlaces 56 = .ok (.istore 4, 2) := by decide +kernel
theorem dX5_fewestPlaces_58 : decode cX5_fewestPlaces 58 = .ok (.iconst 0, 1) := by decide +kernel
theorem dX5_fewestPlaces_59 : decode cX5_fewestPlaces 59 = .ok (.istore 5, 2) := by decide +kernel
theorem dX5_fewestPlaces_61 : decode cX5_fewestPlaces 61 = .ok (.iload 5, 2) := by decide +kernel
theorem dX5_fewestPlaces_63 : decode cX5_fewestPlaces 63 = .ok (.iload_n 3, 1) := by decide +kernel
theorem dX5_fewestPlaces_64 : decode cX5_fewestPlaces 64 = .ok (.if_icmp .gt 36, 3) := by decide +kernel
theorem dX5_fewestPlaces_67 : decode cX5_fewestPlaces 67 = .ok (.iload 5, 2) := by decide +kernel
theorem dX5_fewestPlaces_69 : decode cX5_fewestPlaces 69 = .ok (.invokestatic 57, 3) := by decide +kernel
theorem dX5_fewestPlaces_72 : decode cX5_fewestPlaces 72 = .ok (.iload 4, 2) := by decide +kernel
theorem dX5_fewestPlaces_74 : decode cX5_fewestPlaces 74 = .ok (.invokestatic 57, 3) := by decide +kernel
theorem dX5_fewestPlaces_77 : decode cX5_fewestPlaces 77 = .ok (.if_icmp .ge 17, 3) := by decide +kernel
theorem dX5_fewestPlaces_80 : decode cX5_fewestPlaces 80 = .ok (.aload_n 0, 1) := by decide +kernel
theorem dX5_fewestPlaces_81 : decode cX5_fewestPlaces 81 = .ok (.aload_n 1, 1) := by decide +kernel
theorem dX5_fewestPlaces_82 : decode cX5_fewestPlaces 82 = .ok (.iload 5, 2) := by decide +kernel
theorem dX5_fewestPlaces_84 : decode cX5_fewestPlaces 84 = .ok (.invokevirtual 62, 3) := by decide +kernel
theorem dX5_fewestPlaces_87 : decode cX5_fewestPlaces 87 = .ok (.ifCond .eq 7, 3) := by decide +kernel
theorem dX5_fewestPlaces_90 : decode cX5_fewestPlaces 90 = .ok (.iload 5, 2) := by decide +kernel
theorem dX5_fewestPlaces_92 : decode cX5_fewestPlaces 92 = .ok (.istore 4, 2) := by decide +kernel
theorem dX5_fewestPlaces_94 : decode cX5_fewestPlaces 94 = .ok (.iinc 5 1, 3) := by decide +kernel
theorem dX5_fewestPlaces_97 : decode cX5_fewestPlaces 97 = .ok (.goto (-36), 3) := by decide +kernel
theorem dX5_fewestPlaces_100 : decode cX5_fewestPlaces 100 = .ok (.iload 4, 2) := by decide +kernel
theorem dX5_fewestPlaces_102 : decode cX5_fewestPlaces 102 = .ok (.ireturn, 1) := by decide +kernel
theorem dX5_placesOf_0 : decode cX5_placesOf 0 = .ok (.iconst 0, 1) := by decide +kernel
theorem dX5_placesOf_1 : decode cX5_placesOf 1 = .ok (.istore_n 3, 1) := by decide +kernel
theorem dX5_placesOf_2 : decode cX5_placesOf 2 = .ok (.iconst 0, 1) := by decide +kernel
theorem dX5_placesOf_3 : decode cX5_placesOf 3 = .ok (.istore 4, 2) := by decide +kernel
theorem dX5_placesOf_5 : decode cX5_placesOf 5 = .ok (.iload 4, 2) := by decide +kernel
theorem dX5_placesOf_7 : decode cX5_placesOf 7 = .ok (.iload_n 2, 1) := by decide +kernel
theorem dX5_placesOf_8 : decode cX5_placesOf 8 = .ok (.if_icmp .ge 26, 3) := by decide +kernel
theorem dX5_placesOf_11 : decode cX5_placesOf 11 = .ok (.iload_n 3, 1) := by decide +kernel
theorem dX5_placesOf_12 : decode cX5_placesOf 12 = .ok (.iconst 1, 1) := by decide +kernel
theorem dX5_placesOf_13 : decode cX5_placesOf 13 = .ok (.aload_n 0, 1) := by decide +kernel
theorem dX5_placesOf_14 : decode cX5_placesOf 14 = .ok (.iload_n 1, 1) := by decide +kernel
theorem dX5_placesOf_15 : decode cX5_placesOf 15 = .ok (.aload_n 0, 1) := by decide +kernel
theorem dX5_placesOf_16 : decode cX5_placesOf 16 = .ok (.getfield 66, 3) := by decide +kernel
theorem dX5_placesOf_19 : decode cX5_placesOf 19 = .ok (.iload 4, 2) := by decide +kernel
theorem dX5_placesOf_21 : decode cX5_placesOf 21 = .ok (.iadd, 1) := by decide +kernel
theorem dX5_placesOf_22 : decode cX5_placesOf 22 = .ok (.invokevirtual 69, 3) := by decide +kernel
theorem dX5_placesOf_25 : decode cX5_placesOf 25 = .ok (.ishl, 1) := by decide +kernel
theorem dX5_placesOf_26 : decode cX5_placesOf 26 = .ok (.ior, 1) := by decide +kernel
theorem dX5_placesOf_27 : decode cX5_placesOf 27 = .ok (.istore_n 3, 1) := by decide +kernel
theorem dX5_placesOf_28 : decode cX5_placesOf 28 = .ok (.iinc 4 1, 3) := by decide +kernel
theorem dX5_placesOf_31 : decode cX5_placesOf 31 = .ok (.goto (-26), 3) := by decide +kernel
theorem dX5_placesOf_34 : decode cX5_placesOf 34 = .ok (.iload_n 3, 1) := by decide +kernel
theorem dX5_placesOf_35 : decode cX5_placesOf 35 = .ok (.ireturn, 1) := by decide +kernel
theorem dX5_meetsAll_0 : decode cX5_meetsAll 0 = .ok (.iconst 0, 1) := by decide +kernel
theorem dX5_meetsAll_1 : decode cX5_meetsAll 1 = .ok (.istore_n 3, 1) := by decide +kernel
theorem dX5_meetsAll_2 : decode cX5_meetsAll 2 = .ok (.iload_n 3, 1) := by decide +kernel
theorem dX5_meetsAll_3 : decode cX5_meetsAll 3 = .ok (.aload_n 1, 1) := by decide +kernel
theorem dX5_meetsAll_4 : decode cX5_meetsAll 4 = .ok (.getfield 21, 3) := by decide +kernel
theorem dX5_meetsAll_7 : decode cX5_meetsAll 7 = .ok (.getfield 27, 3) := by decide +kernel
theorem dX5_meetsAll_10 : decode cX5_meetsAll 10 = .ok (.if_icmp .ge 32, 3) := by decide +kernel
theorem dX5_meetsAll_13 : decode cX5_meetsAll 13 = .ok (.aload_n 0, 1) := by decide +kernel
theorem dX5_meetsAll_14 : decode cX5_meetsAll 14 = .ok (.getfield 9, 3) := by decide +kernel
theorem dX5_meetsAll_17 : decode cX5_meetsAll 17 = .ok (.iload_n 3, 1) := by decide +kernel
theorem dX5_meetsAll_18 : decode cX5_meetsAll 18 = .ok (.iaload, 1) := by decide +kernel
theorem dX5_meetsAll_19 : decode cX5_meetsAll 19 = .ok (.iconst (-1), 1) := by decide +kernel
theorem dX5_meetsAll_20 : decode cX5_meetsAll 20 = .ok (.if_icmp .eq 16, 3) := by decide +kernel
theorem dX5_meetsAll_23 : decode cX5_meetsAll 23 = .ok (.aload_n 0, 1) := by decide +kernel
theorem dX5_meetsAll_24 : decode cX5_meetsAll 24 = .ok (.getfield 9, 3) := by decide +kernel
theorem dX5_meetsAll_27 : decode cX5_meetsAll 27 = .ok (.iload_n 3, 1) := by decide +kernel
theorem dX5_meetsAll_28 : decode cX5_meetsAll 28 = .ok (.iaload, 1) := by decide +kernel
theorem dX5_meetsAll_29 : decode cX5_meetsAll 29 = .ok (.iload_n 2, 1) := by decide +kernel
theorem dX5_meetsAll_30 : decode cX5_meetsAll 30 = .ok (.iand, 1) := by decide +kernel
theorem dX5_meetsAll_31 : decode cX5_meetsAll 31 = .ok (.ifCond .ne 5, 3) := by decide +kernel
theorem dX5_meetsAll_34 : decode cX5_meetsAll 34 = .ok (.iconst 0, 1) := by decide +kernel
theorem dX5_meetsAll_35 : decode cX5_meetsAll 35 = .ok (.ireturn, 1) := by decide +kernel
theorem dX5_meetsAll_36 : decode cX5_meetsAll 36 = .ok (.iinc 3 1, 3) := by decide +kernel
theorem dX5_meetsAll_39 : decode cX5_meetsAll 39 = .ok (.goto (-37), 3) := by decide +kernel
theorem dX5_meetsAll_42 : decode cX5_meetsAll 42 = .ok (.iconst 1, 1) := by decide +kernel
theorem dX5_meetsAll_43 : decode cX5_meetsAll 43 = .ok (.ireturn, 1) := by decide +kernel
theorem dX5_busiest_0 : decode cX5_busiest 0 = .ok (.iconst 0, 1) := by decide +kernel
theorem dX5_busiest_1 : decode cX5_busiest 1 = .ok (.istore_n 3, 1) := by decide +kernel
theorem dX5_busiest_2 : decode cX5_busiest 2 = .ok (.iconst 0, 1) := by decide +kernel
theorem dX5_busiest_3 : decode cX5_busiest 3 = .ok (.istore 4, 2) := by decide +kernel
theorem dX5_busiest_5 : decode cX5_busiest 5 = .ok (.iconst 0, 1) := by decide +kernel
theorem dX5_busiest_6 : decode cX5_busiest 6 = .ok (.istore 5, 2) := by decide +kernel
theorem dX5_busiest_8 : decode cX5_busiest 8 = .ok (.iload 5, 2) := by decide +kernel
theorem dX5_busiest_10 : decode cX5_busiest 10 = .ok (.aload_n 1, 1) := by decide +kernel
theorem dX5_busiest_11 : decode cX5_busiest 11 = .ok (.getfield 21, 3) := by decide +kernel
theorem dX5_busiest_14 : decode cX5_busiest 14 = .ok (.getfield 54, 3) := by decide +kernel
theorem dX5_busiest_17 : decode cX5_busiest 17 = .ok (.if_icmp .ge 32, 3) := by decide +kernel
theorem dX5_busiest_20 : decode cX5_busiest 20 = .ok (.aload_n 1, 1) := by decide +kernel
theorem dX5_busiest_21 : decode cX5_busiest 21 = .ok (.iload 5, 2) := by decide +kernel
theorem dX5_busiest_23 : decode cX5_busiest 23 = .ok (.iload_n 2, 1) := by decide +kernel
theorem dX5_busiest_24 : decode cX5_busiest 24 = .ok (.invokestatic 73, 3) := by decide +kernel
theorem dX5_busiest_27 : decode cX5_busiest 27 = .ok (.istore 6, 2) := by decide +kernel
theorem dX5_busiest_29 : decode cX5_busiest 29 = .ok (.iload 6, 2) := by decide +kernel
theorem dX5_busiest_31 : decode cX5_busiest 31 = .ok (.iload 4, 2) := by decide +kernel
theorem dX5_busiest_33 : decode cX5_busiest 33 = .ok (.if_icmp .le 10, 3) := by decide +kernel
theorem dX5_busiest_36 : decode cX5_busiest 36 = .ok (.iload 5, 2) := by decide +kernel
theorem dX5_busiest_38 : decode cX5_busiest 38 = .ok (.istore_n 3, 1) := by decide +kernel
theorem dX5_busiest_39 : decode cX5_busiest 39 = .ok (.iload 6, 2) := by decide +kernel
theorem dX5_busiest_41 : decode cX5_busiest 41 = .ok (.istore 4, 2) := by decide +kernel
theorem dX5_busiest_43 : decode cX5_busiest 43 = .ok (.iinc 5 1, 3) := by decide +kernel
theorem dX5_busiest_46 : decode cX5_busiest 46 = .ok (.goto (-38), 3) := by decide +kernel
theorem dX5_busiest_49 : decode cX5_busiest 49 = .ok (.iload_n 3, 1) := by decide +kernel
theorem dX5_busiest_50 : decode cX5_busiest 50 = .ok (.ireturn, 1) := by decide +kernel
theorem dX5_visits_0 : decode cX5_visits 0 = .ok (.iconst 0, 1) := by decide +kernel
theorem dX5_visits_1 : decode cX5_visits 1 = .ok (.istore_n 3, 1) := by decide +kernel
theorem dX5_visits_2 : decode cX5_visits 2 = .ok (.iconst 0, 1) := by decide +kernel
theorem dX5_visits_3 : decode cX5_visits 3 = .ok (.istore 4, 2) := by decide +kernel
theorem dX5_visits_5 : decode cX5_visits 5 = .ok (.iload 4, 2) := by decide +kernel
theorem dX5_visits_7 : decode cX5_visits 7 = .ok (.aload_n 0, 1) := by decide +kernel
theorem dX5_visits_8 : decode cX5_visits 8 = .ok (.getfield 21, 3) := by decide +kernel
theorem dX5_visits_11 : decode cX5_visits 11 = .ok (.getfield 27, 3) := by decide +kernel
theorem dX5_visits_14 : decode cX5_visits 14 = .ok (.if_icmp .ge 44, 3) := by decide +kernel
theorem dX5_visits_17 : decode cX5_visits 17 = .ok (.iconst 0, 1) := by decide +kernel
theorem dX5_visits_18 : decode cX5_visits 18 = .ok (.istore 5, 2) := by decide +kernel
theorem dX5_visits_20 : decode cX5_visits 20 = .ok (.iload 5, 2) := by decide +kernel
theorem dX5_visits_22 : decode cX5_visits 22 = .ok (.iload_n 2, 1) := by decide +kernel
theorem dX5_visits_23 : decode cX5_visits 23 = .ok (.if_icmp .ge 29, 3) := by decide +kernel
theorem dX5_visits_26 : decode cX5_visits 26 = .ok (.aload_n 0, 1) := by decide +kernel
theorem dX5_visits_27 : decode cX5_visits 27 = .ok (.iload 4, 2) := by decide +kernel
theorem dX5_visits_29 : decode cX5_visits 29 = .ok (.aload_n 0, 1) := by decide +kernel
theorem dX5_visits_30 : decode cX5_visits 30 = .ok (.getfield 66, 3) := by decide +kernel
theorem dX5_visits_33 : decode cX5_visits 33 = .ok (.iload 5, 2) := by decide +kernel
theorem dX5_visits_35 : decode cX5_visits 35 = .ok (.iadd, 1) := by decide +kernel
theorem dX5_visits_36 : decode cX5_visits 36 = .ok (.invokevirtual 69, 3) := by decide +kernel
theorem dX5_visits_39 : decode cX5_visits 39 = .ok (.iload_n 1, 1) := by decide +kernel
theorem dX5_visits_40 : decode cX5_visits 40 = .ok (.if_icmp .ne 6, 3) := by decide +kernel
theorem dX5_visits_43 : decode cX5_visits 43 = .ok (.iinc 3 1, 3) := by decide +kernel
theorem dX5_visits_46 : decode cX5_visits 46 = .ok (.iinc 5 1, 3) := by decide +kernel
theorem dX5_visits_49 : decode cX5_visits 49 = .ok (.goto (-29), 3) := by decide +kernel
theorem dX5_visits_52 : decode cX5_visits 52 = .ok (.iinc 4 1, 3) := by decide +kernel
theorem dX5_visits_55 : decode cX5_visits 55 = .ok (.goto (-50), 3) := by decide +kernel
theorem dX5_visits_58 : decode cX5_visits 58 = .ok (.iload_n 3, 1) := by decide +kernel
theorem dX5_visits_59 : decode cX5_visits 59 = .ok (.ireturn, 1) := by decide +kernel
theorem dX5_leastShame_0 : decode cX5_leastShame 0 = .ok (.aload_n 0, 1) := by decide +kernel
theorem dX5_leastShame_1 : decode cX5_leastShame 1 = .ok (.aload_n 1, 1) := by decide +kernel
theorem dX5_leastShame_2 : decode cX5_leastShame 2 = .ok (.invokevirtual 76, 3) := by decide +kernel
theorem dX5_leastShame_5 : decode cX5_leastShame 5 = .ok (.aload_n 0, 1) := by decide +kernel
theorem dX5_leastShame_6 : decode cX5_leastShame 6 = .ok (.aload_n 1, 1) := by decide +kernel
theorem dX5_leastShame_7 : decode cX5_leastShame 7 = .ok (.invokevirtual 80, 3) := by decide +kernel
theorem dX5_leastShame_10 : decode cX5_leastShame 10 = .ok (.aload_n 0, 1) := by decide +kernel
theorem dX5_leastShame_11 : decode cX5_leastShame 11 = .ok (.getfield 15, 3) := by decide +kernel
theorem dX5_leastShame_14 : decode cX5_leastShame 14 = .ok (.iconst 0, 1) := by decide +kernel
theorem dX5_leastShame_15 : decode cX5_leastShame 15 = .ok (.iaload, 1) := by decide +kernel
theorem dX5_leastShame_16 : decode cX5_leastShame 16 = .ok (.ldc 83, 2) := by decide +kernel
theorem dX5_leastShame_18 : decode cX5_leastShame 18 = .ok (.if_icmp .lt 6, 3) := by decide +kernel
theorem dX5_leastShame_21 : decode cX5_leastShame 21 = .ok (.bipush (-2), 2) := by decide +kernel
theorem dX5_leastShame_23 : decode cX5_leastShame 23 = .ok (.ireturn, 1) := by decide +kernel
theorem dX5_leastShame_24 : decode cX5_leastShame 24 = .ok (.iload_n 2, 1) := by decide +kernel
theorem dX5_leastShame_25 : decode cX5_leastShame 25 = .ok (.iconst (-1), 1) := by decide +kernel
theorem dX5_leastShame_26 : decode cX5_leastShame 26 = .ok (.if_icmp .ne 12, 3) := by decide +kernel
theorem dX5_leastShame_29 : decode cX5_leastShame 29 = .ok (.aload_n 0, 1) := by decide +kernel
theorem dX5_leastShame_30 : decode cX5_leastShame 30 = .ok (.getfield 15, 3) := by decide +kernel
theorem dX5_leastShame_33 : decode cX5_leastShame 33 = .ok (.iconst 0, 1) := by decide +kernel
theorem dX5_leastShame_34 : decode cX5_leastShame 34 = .ok (.iaload, 1) := by decide +kernel
theorem dX5_leastShame_35 : decode cX5_leastShame 35 = .ok (.goto 9, 3) := by decide +kernel
theorem dX5_leastShame_38 : decode cX5_leastShame 38 = .ok (.aload_n 0, 1) := by decide +kernel
theorem dX5_leastShame_39 : decode cX5_leastShame 39 = .ok (.aload_n 1, 1) := by decide +kernel
theorem dX5_leastShame_40 : decode cX5_leastShame 40 = .ok (.iload_n 2, 1) := by decide +kernel
theorem dX5_leastShame_41 : decode cX5_leastShame 41 = .ok (.invokevirtual 84, 3) := by decide +kernel
theorem dX5_leastShame_44 : decode cX5_leastShame 44 = .ok (.ireturn, 1) := by decide +kernel
theorem dX5_listWorn_0 : decode cX5_listWorn 0 = .ok (.aload_n 0, 1) := by decide +kernel
theorem dX5_listWorn_1 : decode cX5_listWorn 1 = .ok (.iconst 0, 1) := by decide +kernel
theorem dX5_listWorn_2 : decode cX5_listWorn 2 = .ok (.putfield 87, 3) := by decide +kernel
theorem dX5_listWorn_5 : decode cX5_listWorn 5 = .ok (.iconst 0, 1) := by decide +kernel
theorem dX5_listWorn_6 : decode cX5_listWorn 6 = .ok (.istore_n 2, 1) := by decide +kernel
theorem dX5_listWorn_7 : decode cX5_listWorn 7 = .ok (.iload_n 2, 1) := by decide +kernel
theorem dX5_listWorn_8 : decode cX5_listWorn 8 = .ok (.aload_n 1, 1) := by decide +kernel
theorem dX5_listWorn_9 : decode cX5_listWorn 9 = .ok (.getfield 21, 3) := by decide +kernel
theorem dX5_listWorn_12 : decode cX5_listWorn 12 = .ok (.getfield 44, 3) := by decide +kernel
theorem dX5_listWorn_15 : decode cX5_listWorn 15 = .ok (.if_icmp .ge 39, 3) := by decide +kernel
theorem dX5_listWorn_18 : decode cX5_listWorn 18 = .ok (.aload_n 1, 1) := by decide +kernel
theorem dX5_listWorn_19 : decode cX5_listWorn 19 = .ok (.getfield 90, 3) := by decide +kernel
theorem dX5_listWorn_22 : decode cX5_listWorn 22 = .ok (.iload_n 2, 1) := by decide +kernel
theorem dX5_listWorn_23 : decode cX5_listWorn 23 = .ok (.iaload, 1) := by decide +kernel
theorem dX5_listWorn_24 : decode cX5_listWorn 24 = .ok (.iconst (-1), 1) := by decide +kernel
theorem dX5_listWorn_25 : decode cX5_listWorn 25 = .ok (.if_icmp .eq 23, 3) := by decide +kernel
theorem dX5_listWorn_28 : decode cX5_listWorn 28 = .ok (.aload_n 0, 1) := by decide +kernel
theorem dX5_listWorn_29 : decode cX5_listWorn 29 = .ok (.getfield 18, 3) := by decide +kernel
theorem dX5_listWorn_32 : decode cX5_listWorn 32 = .ok (.aload_n 0, 1) := by decide +kernel
theorem dX5_listWorn_33 : decode cX5_listWorn 33 = .ok (.getfield 87, 3) := by decide +kernel
theorem dX5_listWorn_36 : decode cX5_listWorn 36 = .ok (.iload_n 2, 1) := by decide +kernel
theorem dX5_listWorn_37 : decode cX5_listWorn 37 = .ok (.iastore, 1) := by decide +kernel
theorem dX5_listWorn_38 : decode cX5_listWorn 38 = .ok (.aload_n 0, 1) := by decide +kernel
theorem dX5_listWorn_39 : decode cX5_listWorn 39 = .ok (.dup, 1) := by decide +kernel
theorem dX5_listWorn_40 : decode cX5_listWorn 40 = .ok (.getfield 87, 3) := by decide +kernel
theorem dX5_listWorn_43 : decode cX5_listWorn 43 = .ok (.iconst 1, 1) := by decide +kernel
theorem dX5_listWorn_44 : decode cX5_listWorn 44 = .ok (.iadd, 1) := by decide +kernel
theorem dX5_listWorn_45 : decode cX5_listWorn 45 = .ok (.putfield 87, 3) := by decide +kernel
theorem dX5_listWorn_48 : decode cX5_listWorn 48 = .ok (.iinc 2 1, 3) := by decide +kernel
theorem dX5_listWorn_51 : decode cX5_listWorn 51 = .ok (.goto (-44), 3) := by decide +kernel
theorem dX5_listWorn_54 : decode cX5_listWorn 54 = .ok (.return_, 1) := by decide +kernel
theorem dX5_fillLeft_0 : decode cX5_fillLeft 0 = .ok (.iconst 1, 1) := by decide +kernel
theorem dX5_fillLeft_1 : decode cX5_fillLeft 1 = .ok (.aload_n 1, 1) := by decide +kernel
theorem dX5_fillLeft_2 : decode cX5_fillLeft 2 = .ok (.getfield 21, 3) := by decide +kernel
theorem dX5_fillLeft_5 : decode cX5_fillLeft 5 = .ok (.getfield 27, 3) := by decide +kernel
theorem dX5_fillLeft_8 : decode cX5_fillLeft 8 = .ok (.ishl, 1) := by decide +kernel
theorem dX5_fillLeft_9 : decode cX5_fillLeft 9 = .ok (.iconst 1, 1) := by decide +kernel
theorem dX5_fillLeft_10 : decode cX5_fillLeft 10 = .ok (.isub, 1) := by decide +kernel
theorem dX5_fillLeft_11 : decode cX5_fillLeft 11 = .ok (.istore_n 2, 1) := by decide +kernel
theorem dX5_fillLeft_12 : decode cX5_fillLeft 12 = .ok (.iload_n 2, 1) := by decide +kernel
theorem dX5_fillLeft_13 : decode cX5_fillLeft 13 = .ok (.ifCond .lt 108, 3) := by decide +kernel
theorem dX5_fillLeft_16 : decode cX5_fillLeft 16 = .ok (.iload_n 2, 1) := by decide +kernel
theorem dX5_fillLeft_17 : decode cX5_fillLeft 17 = .ok (.invokestatic 57, 3) := by decide +kernel
theorem dX5_fillLeft_20 : decode cX5_fillLeft 20 = .ok (.istore_n 3, 1) := by decide +kernel
theorem dX5_fillLeft_21 : decode cX5_fillLeft 21 = .ok (.aload_n 0, 1) := by decide +kernel
theorem dX5_fillLeft_22 : decode cX5_fillLeft 22 = .ok (.getfield 15, 3) := by decide +kernel
theorem dX5_fillLeft_25 : decode cX5_fillLeft 25 = .ok (.iload_n 2, 1) := by decide +kernel
theorem dX5_fillLeft_26 : decode cX5_fillLeft 26 = .ok (.iload_n 3, 1) := by decide +kernel
theorem dX5_fillLeft_27 : decode cX5_fillLeft 27 = .ok (.aload_n 0, 1) := by decide +kernel
theorem dX5_fillLeft_28 : decode cX5_fillLeft 28 = .ok (.getfield 87, 3) := by decide +kernel
theorem dX5_fillLeft_31 : decode cX5_fillLeft 31 = .ok (.if_icmp .lt 7, 3) := by decide +kernel
theorem dX5_fillLeft_34 : decode cX5_fillLeft 34 = .ok (.iconst 0, 1) := by decide +kernel
theorem dX5_fillLeft_35 : decode cX5_fillLeft 35 = .ok (.goto 5, 3) := by decide +kernel
theorem dX5_fillLeft_38 : decode cX5_fillLeft 38 = .ok (.ldc 83, 2) := by decide +kernel
theorem dX5_fillLeft_40 : decode cX5_fillLeft 40 = .ok (.iastore, 1) := by decide +kernel
theorem dX5_fillLeft_41 : decode cX5_fillLeft 41 = .ok (.iconst 0, 1) := by decide +kernel
theorem dX5_fillLeft_42 : decode cX5_fillLeft 42 = .ok (.istore 4, 2) := by decide +kernel
theorem dX5_fillLeft_44 : decode cX5_fillLeft 44 = .ok (.iload_n 3, 1) := by decide +kernel
theorem dX5_fillLeft_45 : decode cX5_fillLeft 45 = .ok (.aload_n 0, 1) := by decide +kernel
theorem dX5_fillLeft_46 : decode cX5_fillLeft 46 = .ok (.getfield 87, 3) := by decide +kernel
theorem dX5_fillLeft_49 : decode cX5_fillLeft 49 = .ok (.if_icmp .ge 66, 3) := by decide +kernel
theorem dX5_fillLeft_52 : decode cX5_fillLeft 52 = .ok (.iload 4, 2) := by decide +kernel
theorem dX5_fillLeft_54 : decode cX5_fillLeft 54 = .ok (.aload_n 1, 1) := by decide +kernel
theorem dX5_fillLeft_55 : decode cX5_fillLeft 55 = .ok (.getfield 21, 3) := by decide +kernel
theorem dX5_fillLeft_58 : decode cX5_fillLeft 58 = .ok (.getfield 27, 3) := by decide +kernel
theorem dX5_fillLeft_61 : decode cX5_fillLeft 61 = .ok (.if_icmp .ge 54, 3) := by decide +kernel
theorem dX5_fillLeft_64 : decode cX5_fillLeft 64 = .ok (.aload_n 1, 1) := by decide +kernel
theorem dX5_fillLeft_65 : decode cX5_fillLeft 65 = .ok (.aload_n 0, 1) := by decide +kernel
theorem dX5_fillLeft_66 : decode cX5_fillLeft 66 = .ok (.getfield 18, 3) := by decide +kernel
theorem dX5_fillLeft_69 : decode cX5_fillLeft 69 = .ok (.iload_n 3, 1) := by decide +kernel
theorem dX5_fillLeft_70 : decode cX5_fillLeft 70 = .ok (.iaload, 1) := by decide +kernel
theorem dX5_fillLeft_71 : decode cX5_fillLeft 71 = .ok (.iload 4, 2) := by decide +kernel
theorem dX5_fillLeft_73 : decode cX5_fillLeft 73 = .ok (.iload_n 2, 1) := by decide +kernel
theorem dX5_fillLeft_74 : decode cX5_fillLeft 74 = .ok (.invokestatic 93, 3) := by decide +kernel
theorem dX5_fillLeft_77 : decode cX5_fillLeft 77 = .ok (.ifCond .eq 32, 3) := by decide +kernel
theorem dX5_fillLeft_80 : decode cX5_fillLeft 80 = .ok (.aload_n 0, 1) := by decide +kernel
theorem dX5_fillLeft_81 : decode cX5_fillLeft 81 = .ok (.getfield 15, 3) := by decide +kernel
theorem dX5_fillLeft_84 : decode cX5_fillLeft 84 = .ok (.iload_n 2, 1) := by decide +kernel
theorem dX5_fillLeft_85 : decode cX5_fillLeft 85 = .ok (.aload_n 0, 1) := by decide +kernel
theorem dX5_fillLeft_86 : decode cX5_fillLeft 86 = .ok (.getfield 15, 3) := by decide +kernel
theorem dX5_fillLeft_89 : decode cX5_fillLeft 89 = .ok (.iload_n 2, 1) := by decide +kernel
theorem dX5_fillLeft_90 : decode cX5_fillLeft 90 = .ok (.iaload, 1) := by decide +kernel
theorem dX5_fillLeft_91 : decode cX5_fillLeft 91 = .ok (.aload_n 0, 1) := by decide +kernel
theorem dX5_fillLeft_92 : decode cX5_fillLeft 92 = .ok (.aload_n 1, 1) := by decide +kernel
theorem dX5_fillLeft_93 : decode cX5_fillLeft 93 = .ok (.aload_n 0, 1) := by decide +kernel
theorem dX5_fillLeft_94 : decode cX5_fillLeft 94 = .ok (.getfield 18, 3) := by decide +kernel
theorem dX5_fillLeft_97 : decode cX5_fillLeft 97 = .ok (.iload_n 3, 1) := by decide +kernel
theorem dX5_fillLeft_98 : decode cX5_fillLeft 98 = .ok (.iaload, 1) := by decide +kernel
theorem dX5_fillLeft_99 : decode cX5_fillLeft 99 = .ok (.iload 4, 2) := by decide +kernel
theorem dX5_fillLeft_101 : decode cX5_fillLeft 101 = .ok (.iload_n 2, 1) := by decide +kernel
theorem dX5_fillLeft_102 : decode cX5_fillLeft 102 = .ok (.invokevirtual 97, 3) := by decide +kernel
theorem dX5_fillLeft_105 : decode cX5_fillLeft 105 = .ok (.invokestatic 101, 3) := by decide +kernel
theorem dX5_fillLeft_108 : decode cX5_fillLeft 108 = .ok (.iastore, 1) := by decide +kernel
theorem dX5_fillLeft_109 : decode cX5_fillLeft 109 = .ok (.iinc 4 1, 3) := by decide +kernel
theorem dX5_fillLeft_112 : decode cX5_fillLeft 112 = .ok (.goto (-68), 3) := by decide +kernel
theorem dX5_fillLeft_115 : decode cX5_fillLeft 115 = .ok (.iinc 2 (-1), 3) := by decide +kernel
theorem dX5_fillLeft_118 : decode cX5_fillLeft 118 = .ok (.goto (-106), 3) := by decide +kernel
theorem dX5_fillLeft_121 : decode cX5_fillLeft 121 = .ok (.return_, 1) := by decide +kernel
theorem dX5_canGo_0 : decode cX5_canGo 0 = .ok (.aload_n 0, 1) := by decide +kernel
theorem dX5_canGo_1 : decode cX5_canGo 1 = .ok (.getfield 47, 3) := by decide +kernel
theorem dX5_canGo_4 : decode cX5_canGo 4 = .ok (.iload_n 1, 1) := by decide +kernel
theorem dX5_canGo_5 : decode cX5_canGo 5 = .ok (.iaload, 1) := by decide +kernel
theorem dX5_canGo_6 : decode cX5_canGo 6 = .ok (.iload_n 2, 1) := by decide +kernel
theorem dX5_canGo_7 : decode cX5_canGo 7 = .ok (.if_icmp .eq 15, 3) := by decide +kernel
theorem dX5_canGo_10 : decode cX5_canGo 10 = .ok (.iload_n 3, 1) := by decide +kernel
theorem dX5_canGo_11 : decode cX5_canGo 11 = .ok (.iload_n 2, 1) := by decide +kernel
theorem dX5_canGo_12 : decode cX5_canGo 12 = .ok (.ishr, 1) := by decide +kernel
theorem dX5_canGo_13 : decode cX5_canGo 13 = .ok (.iconst 1, 1) := by decide +kernel
theorem dX5_canGo_14 : decode cX5_canGo 14 = .ok (.iand, 1) := by decide +kernel
theorem dX5_canGo_15 : decode cX5_canGo 15 = .ok (.ifCond .ne 7, 3) := by decide +kernel
theorem dX5_canGo_18 : decode cX5_canGo 18 = .ok (.iconst 1, 1) := by decide +kernel
theorem dX5_canGo_19 : decode cX5_canGo 19 = .ok (.goto 4, 3) := by decide +kernel
theorem dX5_canGo_22 : decode cX5_canGo 22 = .ok (.iconst 0, 1) := by decide +kernel
theorem dX5_canGo_23 : decode cX5_canGo 23 = .ok (.ireturn, 1) := by decide +kernel
theorem dX5_costWith_0 : decode cX5_costWith 0 = .ok (.iconst 0, 1) := by decide +kernel
theorem dX5_costWith_1 : decode cX5_costWith 1 = .ok (.aload_n 1, 1) := by decide +kernel
theorem dX5_costWith_2 : decode cX5_costWith 2 = .ok (.getfield 106, 3) := by decide +kernel
theorem dX5_costWith_5 : decode cX5_costWith 5 = .ok (.iload_n 2, 1) := by decide +kernel
theorem dX5_costWith_6 : decode cX5_costWith 6 = .ok (.iaload, 1) := by decide +kernel
theorem dX5_costWith_7 : decode cX5_costWith 7 = .ok (.aload_n 1, 1) := by decide +kernel
theorem dX5_costWith_8 : decode cX5_costWith 8 = .ok (.getfield 109, 3) := by decide +kernel
theorem dX5_costWith_11 : decode cX5_costWith 11 = .ok (.iload_n 3, 1) := by decide +kernel
theorem dX5_costWith_12 : decode cX5_costWith 12 = .ok (.iaload, 1) := by decide +kernel
theorem dX5_costWith_13 : decode cX5_costWith 13 = .ok (.isub, 1) := by decide +kernel
theorem dX5_costWith_14 : decode cX5_costWith 14 = .ok (.invokestatic 112, 3) := by decide +kernel
theorem dX5_costWith_17 : decode cX5_costWith 17 = .ok (.aload_n 0, 1) := by decide +kernel
theorem dX5_costWith_18 : decode cX5_costWith 18 = .ok (.getfield 15, 3) := by decide +kernel
theorem dX5_costWith_21 : decode cX5_costWith 21 = .ok (.iload 4, 2) := by decide +kernel
theorem dX5_costWith_23 : decode cX5_costWith 23 = .ok (.iconst 1, 1) := by decide +kernel
theorem dX5_costWith_24 : decode cX5_costWith 24 = .ok (.iload_n 3, 1) := by decide +kernel
theorem dX5_costWith_25 : decode cX5_costWith 25 = .ok (.ishl, 1) := by decide +kernel
theorem dX5_costWith_26 : decode cX5_costWith 26 = .ok (.ior, 1) := by decide +kernel
theorem dX5_costWith_27 : decode cX5_costWith 27 = .ok (.iaload, 1) := by decide +kernel
theorem dX5_costWith_28 : decode cX5_costWith 28 = .ok (.iadd, 1) := by decide +kernel
theorem dX5_costWith_29 : decode cX5_costWith 29 = .ok (.ireturn, 1) := by decide +kernel
theorem dX5_goesTo_0 : decode cX5_goesTo 0 = .ok (.iconst 0, 1) := by decide +kernel
theorem dX5_goesTo_1 : decode cX5_goesTo 1 = .ok (.istore_n 3, 1) := by decide +kernel
theorem dX5_goesTo_2 : decode cX5_goesTo 2 = .ok (.iconst 0, 1) := by decide +kernel
theorem dX5_goesTo_3 : decode cX5_goesTo 3 = .ok (.istore 4, 2) := by decide +kernel
theorem dX5_goesTo_5 : decode cX5_goesTo 5 = .ok (.iload 4, 2) := by decide +kernel
theorem dX5_goesTo_7 : decode cX5_goesTo 7 = .ok (.aload_n 0, 1) := by decide +kernel
theorem dX5_goesTo_8 : decode cX5_goesTo 8 = .ok (.getfield 87, 3) := by decide +kernel
theorem dX5_goesTo_11 : decode cX5_goesTo 11 = .ok (.if_icmp .ge 51, 3) := by decide +kernel
theorem dX5_goesTo_14 : decode cX5_goesTo 14 = .ok (.aload_n 0, 1) := by decide +kernel
theorem dX5_goesTo_15 : decode cX5_goesTo 15 = .ok (.aload_n 1, 1) := by decide +kernel
theorem dX5_goesTo_16 : decode cX5_goesTo 16 = .ok (.aload_n 0, 1) := by decide +kernel
theorem dX5_goesTo_17 : decode cX5_goesTo 17 = .ok (.getfield 18, 3) := by decide +kernel
theorem dX5_goesTo_20 : decode cX5_goesTo 20 = .ok (.iload 4, 2) := by decide +kernel
theorem dX5_goesTo_22 : decode cX5_goesTo 22 = .ok (.iaload, 1) := by decide +kernel
theorem dX5_goesTo_23 : decode cX5_goesTo 23 = .ok (.iload_n 3, 1) := by decide +kernel
theorem dX5_goesTo_24 : decode cX5_goesTo 24 = .ok (.invokevirtual 115, 3) := by decide +kernel
theorem dX5_goesTo_27 : decode cX5_goesTo 27 = .ok (.istore 5, 2) := by decide +kernel
theorem dX5_goesTo_29 : decode cX5_goesTo 29 = .ok (.iload 5, 2) := by decide +kernel
theorem dX5_goesTo_31 : decode cX5_goesTo 31 = .ok (.iconst (-1), 1) := by decide +kernel
theorem dX5_goesTo_32 : decode cX5_goesTo 32 = .ok (.if_icmp .eq 14, 3) := by decide +kernel
theorem dX5_goesTo_35 : decode cX5_goesTo 35 = .ok (.aload_n 0, 1) := by decide +kernel
theorem dX5_goesTo_36 : decode cX5_goesTo 36 = .ok (.getfield 18, 3) := by decide +kernel
theorem dX5_goesTo_39 : decode cX5_goesTo 39 = .ok (.iload 4, 2) := by decide +kernel
theorem dX5_goesTo_41 : decode cX5_goesTo 41 = .ok (.iaload, 1) := by decide +kernel
theorem dX5_goesTo_42 : decode cX5_goesTo 42 = .ok (.iload_n 2, 1) := by decide +kernel
theorem dX5_goesTo_43 : decode cX5_goesTo 43 = .ok (.if_icmp .ne 6, 3) := by decide +kernel
theorem dX5_goesTo_46 : decode cX5_goesTo 46 = .ok (.iload 5, 2) := by decide +kernel
theorem dX5_goesTo_48 : decode cX5_goesTo 48 = .ok (.ireturn, 1) := by decide +kernel
theorem dX5_goesTo_49 : decode cX5_goesTo 49 = .ok (.iload_n 3, 1) := by decide +kernel
theorem dX5_goesTo_50 : decode cX5_goesTo 50 = .ok (.iconst 1, 1) := by decide +kernel
theorem dX5_goesTo_51 : decode cX5_goesTo 51 = .ok (.iload 5, 2) := by decide +kernel
theorem dX5_goesTo_53 : decode cX5_goesTo 53 = .ok (.ishl, 1) := by decide +kernel
theorem dX5_goesTo_54 : decode cX5_goesTo 54 = .ok (.ior, 1) := by decide +kernel
theorem dX5_goesTo_55 : decode cX5_goesTo 55 = .ok (.istore_n 3, 1) := by decide +kernel
theorem dX5_goesTo_56 : decode cX5_goesTo 56 = .ok (.iinc 4 1, 3) := by decide +kernel
theorem dX5_goesTo_59 : decode cX5_goesTo 59 = .ok (.goto (-54), 3) := by decide +kernel
theorem dX5_goesTo_62 : decode cX5_goesTo 62 = .ok (.iconst (-1), 1) := by decide +kernel
theorem dX5_goesTo_63 : decode cX5_goesTo 63 = .ok (.ireturn, 1) := by decide +kernel
theorem dX5_firstOf_0 : decode cX5_firstOf 0 = .ok (.iconst 0, 1) := by decide +kernel
theorem dX5_firstOf_1 : decode cX5_firstOf 1 = .ok (.istore 4, 2) := by decide +kernel
theorem dX5_firstOf_3 : decode cX5_firstOf 3 = .ok (.iload 4, 2) := by decide +kernel
theorem dX5_firstOf_5 : decode cX5_firstOf 5 = .ok (.aload_n 1, 1) := by decide +kernel
theorem dX5_firstOf_6 : decode cX5_firstOf 6 = .ok (.getfield 21, 3) := by decide +kernel
theorem dX5_firstOf_9 : decode cX5_firstOf 9 = .ok (.getfield 27, 3) := by decide +kernel
theorem dX5_firstOf_12 : decode cX5_firstOf 12 = .ok (.if_icmp .ge 41, 3) := by decide +kernel
theorem dX5_firstOf_15 : decode cX5_firstOf 15 = .ok (.aload_n 1, 1) := by decide +kernel
theorem dX5_firstOf_16 : decode cX5_firstOf 16 = .ok (.iload_n 2, 1) := by decide +kernel
theorem dX5_firstOf_17 : decode cX5_firstOf 17 = .ok (.iload 4, 2) := by decide +kernel
theorem dX5_firstOf_19 : decode cX5_firstOf 19 = .ok (.iload_n 3, 1) := by decide +kernel
theorem dX5_firstOf_20 : decode cX5_firstOf 20 = .ok (.invokestatic 93, 3) := by decide +kernel
theorem dX5_firstOf_23 : decode cX5_firstOf 23 = .ok (.ifCond .eq 24, 3) := by decide +kernel
theorem dX5_firstOf_26 : decode cX5_firstOf 26 = .ok (.aload_n 0, 1) := by decide +kernel
theorem dX5_firstOf_27 : decode cX5_firstOf 27 = .ok (.aload_n 1, 1) := by decide +kernel
theorem dX5_firstOf_28 : decode cX5_firstOf 28 = .ok (.iload_n 2, 1) := by decide +kernel
theorem dX5_firstOf_29 : decode cX5_firstOf 29 = .ok (.iload 4, 2) := by decide +kernel
theorem dX5_firstOf_31 : decode cX5_firstOf 31 = .ok (.iload_n 3, 1) := by decide +kernel
theorem dX5_firstOf_32 : decode cX5_firstOf 32 = .ok (.invokevirtual 97, 3) := by decide +kernel
theorem dX5_firstOf_35 : decode cX5_firstOf 35 = .ok (.aload_n 0, 1) := by decide +kernel
theorem dX5_firstOf_36 : decode cX5_firstOf 36 = .ok (.getfield 15, 3) := by decide +kernel
theorem dX5_firstOf_39 : decode cX5_firstOf 39 = .ok (.iload_n 3, 1) := by decide +kernel
theorem dX5_firstOf_40 : decode cX5_firstOf 40 = .ok (.iaload, 1) := by decide +kernel
theorem dX5_firstOf_41 : decode cX5_firstOf 41 = .ok (.if_icmp .ne 6, 3) := by decide +kernel
theorem dX5_firstOf_44 : decode cX5_firstOf 44 = .ok (.iload 4, 2) := by decide +kernel
theorem dX5_firstOf_46 : decode cX5_firstOf 46 = .ok (.ireturn, 1) := by decide +kernel
theorem dX5_firstOf_47 : decode cX5_firstOf 47 = .ok (.iinc 4 1, 3) := by decide +kernel
theorem dX5_firstOf_50 : decode cX5_firstOf 50 = .ok (.goto (-47), 3) := by decide +kernel
theorem dX5_firstOf_53 : decode cX5_firstOf 53 = .ok (.iconst (-1), 1) := by decide +kernel
theorem dX5_firstOf_54 : decode cX5_firstOf 54 = .ok (.ireturn, 1) := by decide +kernel
theorem dX7_init_0 : decode cX7_init 0 = .ok (.aload_n 0, 1) := by decide +kernel
theorem dX7_init_1 : decode cX7_init 1 = .ok (.invokespecial 3, 3) := by decide +kernel
theorem dX7_init_4 : decode cX7_init 4 = .ok (.aload_n 0, 1) := by decide +kernel
theorem dX7_init_5 : decode cX7_init 5 = .ok (.new 9, 3) := by decide +kernel
theorem dX7_init_8 : decode cX7_init 8 = .ok (.dup, 1) := by decide +kernel
theorem dX7_init_9 : decode cX7_init 9 = .ok (.invokespecial 11, 3) := by decide +kernel
theorem dX7_init_12 : decode cX7_init 12 = .ok (.putfield 12, 3) := by decide +kernel
theorem dX7_init_15 : decode cX7_init 15 = .ok (.aload_n 0, 1) := by decide +kernel
theorem dX7_init_16 : decode cX7_init 16 = .ok (.iconst 4, 1) := by decide +kernel
theorem dX7_init_17 : decode cX7_init 17 = .ok (.newarray .int, 2) := by decide +kernel
theorem dX7_init_19 : decode cX7_init 19 = .ok (.putfield 18, 3) := by decide +kernel
theorem dX7_init_22 : decode cX7_init 22 = .ok (.aload_n 0, 1) := by decide +kernel
theorem dX7_init_23 : decode cX7_init 23 = .ok (.iconst 4, 1) := by decide +kernel
theorem dX7_init_24 : decode cX7_init 24 = .ok (.newarray .int, 2) := by decide +kernel
theorem dX7_init_26 : decode cX7_init 26 = .ok (.putfield 22, 3) := by decide +kernel
theorem dX7_init_29 : decode cX7_init 29 = .ok (.return_, 1) := by decide +kernel
theorem dX7_start_0 : decode cX7_start 0 = .ok (.aload_n 0, 1) := by decide +kernel
theorem dX7_start_1 : decode cX7_start 1 = .ok (.getfield 12, 3) := by decide +kernel
theorem dX7_start_4 : decode cX7_start 4 = .ok (.aload_n 1, 1) := by decide +kernel
theorem dX7_start_5 : decode cX7_start 5 = .ok (.invokevirtual 25, 3) := by decide +kernel
theorem dX7_start_8 : decode cX7_start 8 = .ok (.return_, 1) := by decide +kernel
theorem dX7_behind_0 : decode cX7_behind 0 = .ok (.aload_n 0, 1) := by decide +kernel
theorem dX7_behind_1 : decode cX7_behind 1 = .ok (.aload_n 1, 1) := by decide +kernel
theorem dX7_behind_2 : decode cX7_behind 2 = .ok (.invokevirtual 29, 3) := by decide +kernel
theorem dX7_behind_5 : decode cX7_behind 5 = .ok (.aload_n 0, 1) := by decide +kernel
theorem dX7_behind_6 : decode cX7_behind 6 = .ok (.iload_n 2, 1) := by decide +kernel
theorem dX7_behind_7 : decode cX7_behind 7 = .ok (.invokevirtual 32, 3) := by decide +kernel
theorem dX7_behind_10 : decode cX7_behind 10 = .ok (.aload_n 0, 1) := by decide +kernel
theorem dX7_behind_11 : decode cX7_behind 11 = .ok (.getfield 12, 3) := by decide +kernel
theorem dX7_behind_14 : decode cX7_behind 14 = .ok (.areturn, 1) := by decide +kernel
theorem dX7_passDays_0 : decode cX7_passDays 0 = .ok (.iconst 0, 1) := by decide +kernel
theorem dX7_passDays_1 : decode cX7_passDays 1 = .ok (.istore_n 2, 1) := by decide +kernel
theorem dX7_passDays_2 : decode cX7_passDays 2 = .ok (.iload_n 2, 1) := by decide +kernel
theorem dX7_passDays_3 : decode cX7_passDays 3 = .ok (.iload_n 1, 1) := by decide +kernel
theorem dX7_passDays_4 : decode cX7_passDays 4 = .ok (.if_icmp .ge 17, 3) := by decide +kernel
theorem dX7_passDays_7 : decode cX7_passDays 7 = .ok (.aload_n 0, 1) := by decide +kernel
theorem dX7_passDays_8 : decode cX7_passDays 8 = .ok (.getfield 12, 3) := by decide +kernel
theorem dX7_passDays_11 : decode cX7_passDays 11 = .ok (.iconst 0, 1) := by decide +kernel
theorem dX7_passDays_12 : decode cX7_passDays 12 = .ok (.invokevirtual 36, 3) := by decide +kernel
theorem dX7_passDays_15 : decode cX7_passDays 15 = .ok (.iinc 2 1, 3) := by decide +kernel
theorem dX7_passDays_18 : decode cX7_passDays 18 = .ok (.goto (-16), 3) := by decide +kernel
theorem dX7_passDays_21 : decode cX7_passDays 21 = .ok (.return_, 1) := by decide +kernel
theorem dX7_endOfWearing_0 : decode cX7_endOfWearing 0 = .ok (.aload_n 0, 1) := by decide +kernel
theorem dX7_endOfWearing_1 : decode cX7_endOfWearing 1 = .ok (.getfield 12, 3) := by decide +kernel
theorem dX7_endOfWearing_4 : decode cX7_endOfWearing 4 = .ok (.getfield 40, 3) := by decide +kernel
theorem dX7_endOfWearing_7 : decode cX7_endOfWearing 7 = .ok (.iload_n 1, 1) := by decide +kernel
theorem dX7_endOfWearing_8 : decode cX7_endOfWearing 8 = .ok (.iaload, 1) := by decide +kernel
theorem dX7_endOfWearing_9 : decode cX7_endOfWearing 9 = .ok (.istore_n 3, 1) := by decide +kernel
theorem dX7_endOfWearing_10 : decode cX7_endOfWearing 10 = .ok (.iconst 1, 1) := by decide +kernel
theorem dX7_endOfWearing_11 : decode cX7_endOfWearing 11 = .ok (.istore 4, 2) := by decide +kernel
theorem dX7_endOfWearing_13 : decode cX7_endOfWearing 13 = .ok (.iload 4, 2) := by decide +kernel
theorem dX7_endOfWearing_15 : decode cX7_endOfWearing 15 = .ok (.bipush 100, 2) := by decide +kernel
theorem dX7_endOfWearing_17 : decode cX7_endOfWearing 17 = .ok (.if_icmp .gt 72, 3) := by decide +kernel
theorem dX7_endOfWearing_20 : decode cX7_endOfWearing 20 = .ok (.aload_n 0, 1) := by decide +kernel
theorem dX7_endOfWearing_21 : decode cX7_endOfWearing 21 = .ok (.getfield 12, 3) := by decide +kernel
theorem dX7_endOfWearing_24 : decode cX7_endOfWearing 24 = .ok (.getfield 40, 3) := by decide +kernel
theorem dX7_endOfWearing_27 : decode cX7_endOfWearing 27 = .ok (.iload_n 1, 1) := by decide +kernel
theorem dX7_endOfWearing_28 : decode cX7_endOfWearing 28 = .ok (.iaload, 1) := by decide +kernel
theorem dX7_endOfWearing_29 : decode cX7_endOfWearing 29 = .ok (.iconst (-1), 1) := by decide +kernel
theorem dX7_endOfWearing_30 : decode cX7_endOfWearing 30 = .ok (.if_icmp .eq 59, 3) := by decide +kernel
theorem dX7_endOfWearing_33 : decode cX7_endOfWearing 33 = .ok (.aload_n 0, 1) := by decide +kernel
theorem dX7_endOfWearing_34 : decode cX7_endOfWearing 34 = .ok (.getfield 12, 3) := by decide +kernel
theorem dX7_endOfWearing_37 : decode cX7_endOfWearing 37 = .ok (.iconst 0, 1) := by decide +kernel
theorem dX7_endOfWearing_38 : decode cX7_endOfWearing 38 = .ok (.invokevirtual 36, 3) := by decide +kernel
theorem dX7_endOfWearing_41 : decode cX7_endOfWearing 41 = .ok (.aload_n 0, 1) := by decide +kernel
theorem dX7_endOfWearing_42 : decode cX7_endOfWearing 42 = .ok (.getfield 12, 3) := by decide +kernel
theorem dX7_endOfWearing_45 : decode cX7_endOfWearing 45 = .ok (.getfield 40, 3) := by decide +kernel
theorem dX7_endOfWearing_48 : decode cX7_endOfWearing 48 = .ok (.iload_n 1, 1) := by decide +kernel
theorem dX7_endOfWearing_49 : decode cX7_endOfWearing 49 = .ok (.iaload, 1) := by decide +kernel
theorem dX7_endOfWearing_50 : decode cX7_endOfWearing 50 = .ok (.iconst (-1), 1) := by decide +kernel
theorem dX7_endOfWearing_51 : decode cX7_endOfWearing 51 = .ok (.if_icmp .ne 32, 3) := by decide +kernel
theorem dX7_endOfWearing_54 : decode cX7_endOfWearing 54 = .ok (.aload_n 0, 1) := by decide +kernel
theorem dX7_endOfWearing_55 : decode cX7_endOfWearing 55 = .ok (.getfield 12, 3) := by decide +kernel
theorem dX7_endOfWearing_58 : decode cX7_endOfWearing 58 = .ok (.getfield 43, 3) := by decide +kernel
theorem dX7_endOfWearing_61 : decode cX7_endOfWearing 61 = .ok (.iload_n 1, 1) := by decide +kernel
theorem dX7_endOfWearing_62 : decode cX7_endOfWearing 62 = .ok (.iaload, 1) := by decide +kernel
theorem dX7_endOfWearing_63 : decode cX7_endOfWearing 63 = .ok (.iload_n 3, 1) := by decide +kernel
theorem dX7_endOfWearing_64 : decode cX7_endOfWearing 64 = .ok (.if_icmp .ne 7, 3) := by decide +kernel
theorem dX7_endOfWearing_67 : decode cX7_endOfWearing 67 = .ok (.iconst 1, 1) := by decide +kernel
theorem dX7_endOfWearing_68 : decode cX7_endOfWearing 68 = .ok (.goto 4, 3) := by decide +kernel
theorem dX7_endOfWearing_71 : decode cX7_endOfWearing 71 = .ok (.iconst 0, 1) := by decide +kernel
theorem dX7_endOfWearing_72 : decode cX7_endOfWearing 72 = .ok (.iload_n 2, 1) := by decide +kernel
theorem dX7_endOfWearing_73 : decode cX7_endOfWearing 73 = .ok (.if_icmp .ne 8, 3) := by decide +kernel
theorem dX7_endOfWearing_76 : decode cX7_endOfWearing 76 = .ok (.iload 4, 2) := by decide +kernel
theorem dX7_endOfWearing_78 : decode cX7_endOfWearing 78 = .ok (.goto 4, 3) := by decide +kernel
theorem dX7_endOfWearing_81 : decode cX7_endOfWearing 81 = .ok (.iconst (-1), 1) := by decide +kernel
theorem dX7_endOfWearing_82 : decode cX7_endOfWearing 82 = .ok (.ireturn, 1) := by decide +kernel
theorem dX7_endOfWearing_83 : decode cX7_endOfWearing 83 = .ok (.iinc 4 1, 3) := by decide +kernel
theorem dX7_endOfWearing_86 : decode cX7_endOfWearing 86 = .ok (.goto (-73), 3) := by decide +kernel
theorem dX7_endOfWearing_89 : decode cX7_endOfWearing 89 = .ok (.iconst (-1), 1) := by decide +kernel
theorem dX7_endOfWearing_90 : decode cX7_endOfWearing 90 = .ok (.ireturn, 1) := by decide +kernel
theorem dX7_bestPlace_0 : decode cX7_bestPlace 0 = .ok (.aload_n 1, 1) := by decide +kernel
theorem dX7_bestPlace_1 : decode cX7_bestPlace 1 = .ok (.getfield 40, 3) := by decide +kernel
theorem dX7_bestPlace_4 : decode cX7_bestPlace 4 = .ok (.iload_n 2, 1) := by decide +kernel
theorem dX7_bestPlace_5 : decode cX7_bestPlace 5 = .ok (.iaload, 1) := by decide +kernel
theorem dX7_bestPlace_6 : decode cX7_bestPlace 6 = .ok (.istore 4, 2) := by decide +kernel
theorem dX7_bestPlace_8 : decode cX7_bestPlace 8 = .ok (.iconst (-1), 1) := by decide +kernel
theorem dX7_bestPlace_9 : decode cX7_bestPlace 9 = .ok (.istore 5, 2) := by decide +kernel
theorem dX7_bestPlace_11 : decode cX7_bestPlace 11 = .ok (.iconst (-1), 1) := by decide +kernel
theorem dX7_bestPlace_12 : decode cX7_bestPlace 12 = .ok (.istore 6, 2) := by decide +kernel
theorem dX7_bestPlace_14 : decode cX7_bestPlace 14 = .ok (.iconst 0, 1) := by decide +kernel
theorem dX7_bestPlace_15 : decode cX7_bestPlace 15 = .ok (.istore 7, 2) := by decide +kernel
theorem dX7_bestPlace_17 : decode cX7_bestPlace 17 = .ok (.iload 4, 2) := by decide +kernel
theorem dX7_bestPlace_19 : decode cX7_bestPlace 19 = .ok (.iconst (-1), 1) := by decide +kernel
theorem dX7_bestPlace_20 : decode cX7_bestPlace 20 = .ok (.if_icmp .eq 63, 3) := by decide +kernel
theorem dX7_bestPlace_23 : decode cX7_bestPlace 23 = .ok (.iload 7, 2) := by decide +kernel
theorem dX7_bestPlace_25 : decode cX7_bestPlace 25 = .ok (.aload_n 1, 1) := by decide +kernel
theorem dX7_bestPlace_26 : decode cX7_bestPlace 26 = .ok (.getfield 46, 3) := by decide +kernel
theorem dX7_bestPlace_29 : decode cX7_bestPlace 29 = .ok (.getfield 50, 3) := by decide +kernel
theorem dX7_bestPlace_32 : decode cX7_bestPlace 32 = .ok (.if_icmp .ge 51, 3) := by decide +kernel
theorem dX7_bestPlace_35 : decode cX7_bestPlace 35 = .ok (.aload_n 0, 1) := by decide +kernel
theorem dX7_bestPlace_36 : decode cX7_bestPlace 36 = .ok (.aload_n 1, 1) := by decide +kernel
theorem dX7_bestPlace_37 : decode cX7_bestPlace 37 = .ok (.invokevirtual 29, 3) := by decide +kernel
theorem dX7_bestPlace_40 : decode cX7_bestPlace 40 = .ok (.aload_n 0, 1) := by decide +kernel
theorem dX7_bestPlace_41 : decode cX7_bestPlace 41 = .ok (.getfield 12, 3) := by decide +kernel
theorem dX7_bestPlace_44 : decode cX7_bestPlace 44 = .ok (.iload 4, 2) := by decide +kernel
theorem dX7_bestPlace_46 : decode cX7_bestPlace 46 = .ok (.iload 7, 2) := by decide +kernel
theorem dX7_bestPlace_48 : decode cX7_bestPlace 48 = .ok (.invokevirtual 56, 3) := by decide +kernel
theorem dX7_bestPlace_51 : decode cX7_bestPlace 51 = .ok (.aload_n 0, 1) := by decide +kernel
theorem dX7_bestPlace_52 : decode cX7_bestPlace 52 = .ok (.iload_n 2, 1) := by decide +kernel
theorem dX7_bestPlace_53 : decode cX7_bestPlace 53 = .ok (.iconst 1, 1) := by decide +kernel
theorem dX7_bestPlace_54 : decode cX7_bestPlace 54 = .ok (.invokevirtual 60, 3) := by decide +kernel
theorem dX7_bestPlace_57 : decode cX7_bestPlace 57 = .ok (.istore 8, 2) := by decide +kernel
theorem dX7_bestPlace_59 : decode cX7_bestPlace 59 = .ok (.iload 8, 2) := by decide +kernel
theorem dX7_bestPlace_61 : decode cX7_bestPlace 61 = .ok (.iload 6, 2) := by decide +kernel
theorem dX7_bestPlace_63 : decode cX7_bestPlace 63 = .ok (.invokestatic 64, 3) := by decide +kernel
theorem dX7_bestPlace_66 : decode cX7_bestPlace 66 = .ok (.ifCond .eq 11, 3) := by decide +kernel
theorem dX7_bestPlace_69 : decode cX7_bestPlace 69 = .ok (.iload 7, 2) := by decide +kernel
theorem dX7_bestPlace_71 : decode cX7_bestPlace 71 = .ok (.istore 5, 2) := by decide +kernel
theorem dX7_bestPlace_73 : decode cX7_bestPlace 73 = .ok (.iload 8, 2) := by decide +kernel
theorem dX7_bestPlace_75 : decode cX7_bestPlace 75 = .ok (.istore 6, 2) := by decide +kernel
theorem dX7_bestPlace_77 : decode cX7_bestPlace 77 = .ok (.iinc 7 1, 3) := by decide +kernel
theorem dX7_bestPlace_80 : decode cX7_bestPlace 80 = .ok (.goto (-63), 3) := by decide +kernel
theorem dX7_bestPlace_83 : decode cX7_bestPlace 83 = .ok (.iload_n 3, 1) := by decide +kernel
theorem dX7_bestPlace_84 : decode cX7_bestPlace 84 = .ok (.ifCond .eq 8, 3) := by decide +kernel
theorem dX7_bestPlace_87 : decode cX7_bestPlace 87 = .ok (.iload 5, 2) := by decide +kernel
theorem dX7_bestPlace_89 : decode cX7_bestPlace 89 = .ok (.goto 5, 3) := by decide +kernel
theorem dX7_bestPlace_92 : decode cX7_bestPlace 92 = .ok (.iload 6, 2) := by decide +kernel
theorem dX7_bestPlace_94 : decode cX7_bestPlace 94 = .ok (.ireturn, 1) := by decide +kernel
theorem dX7_bestThing_0 : decode cX7_bestThing 0 = .ok (.iconst (-1), 1) := by decide +kernel
theorem dX7_bestThing_1 : decode cX7_bestThing 1 = .ok (.istore 4, 2) := by decide +kernel
theorem dX7_bestThing_3 : decode cX7_bestThing 3 = .ok (.iconst (-1), 1) := by decide +kernel
theorem dX7_bestThing_4 : decode cX7_bestThing 4 = .ok (.istore 5, 2) := by decide +kernel
theorem dX7_bestThing_6 : decode cX7_bestThing 6 = .ok (.iconst 0, 1) := by decide +kernel
theorem dX7_bestThing_7 : decode cX7_bestThing 7 = .ok (.istore 6, 2) := by decide +kernel
theorem dX7_bestThing_9 : decode cX7_bestThing 9 = .ok (.iload 6, 2) := by decide +kernel
theorem dX7_bestThing_11 : decode cX7_bestThing 11 = .ok (.aload_n 1, 1) := by decide +kernel
theorem dX7_bestThing_12 : decode cX7_bestThing 12 = .ok (.getfield 46, 3) := by decide +kernel
theorem dX7_bestThing_15 : decode cX7_bestThing 15 = .ok (.getfield 68, 3) := by decide +kernel
theorem dX7_bestThing_18 : decode cX7_bestThing 18 = .ok (.if_icmp .ge 64, 3) := by decide +kernel
theorem dX7_bestThing_21 : decode cX7_bestThing 21 = .ok (.aload_n 1, 1) := by decide +kernel
theorem dX7_bestThing_22 : decode cX7_bestThing 22 = .ok (.iload_n 2, 1) := by decide +kernel
theorem dX7_bestThing_23 : decode cX7_bestThing 23 = .ok (.iload 6, 2) := by decide +kernel
theorem dX7_bestThing_25 : decode cX7_bestThing 25 = .ok (.invokevirtual 71, 3) := by decide +kernel
theorem dX7_bestThing_28 : decode cX7_bestThing 28 = .ok (.ifCond .ne 6, 3) := by decide +kernel
theorem dX7_bestThing_31 : decode cX7_bestThing 31 = .ok (.goto 45, 3) := by decide +kernel
theorem dX7_bestThing_34 : decode cX7_bestThing 34 = .ok (.aload_n 0, 1) := by decide +kernel
theorem dX7_bestThing_35 : decode cX7_bestThing 35 = .ok (.aload_n 1, 1) := by decide +kernel
theorem dX7_bestThing_36 : decode cX7_bestThing 36 = .ok (.invokevirtual 29, 3) := by decide +kernel
theorem dX7_bestThing_39 : decode cX7_bestThing 39 = .ok (.aload_n 0, 1) := by decide +kernel
theorem dX7_bestThing_40 : decode cX7_bestThing 40 = .ok (.getfield 12, 3) := by decide +kernel
theorem dX7_bestThing_43 : decode cX7_bestThing 43 = .ok (.iload_n 2, 1) := by decide +kernel
theorem dX7_bestThing_44 : decode cX7_bestThing 44 = .ok (.iload 6, 2) := by decide +kernel
theorem dX7_bestThing_46 : decode cX7_bestThing 46 = .ok (.invokevirtual 74, 3) := by decide +kernel
theorem dX7_bestThing_49 : decode cX7_bestThing 49 = .ok (.aload_n 0, 1) := by decide +kernel
theorem dX7_bestThing_50 : decode cX7_bestThing 50 = .ok (.iload 6, 2) := by decide +kernel
theorem dX7_bestThing_52 : decode cX7_bestThing 52 = .ok (.iconst 1, 1) := by decide +kernel
theorem dX7_bestThing_53 : decode cX7_bestThing 53 = .ok (.invokevirtual 60, 3) := by decide +kernel
theorem dX7_bestThing_56 : decode cX7_bestThing 56 = .ok (.istore 7, 2) := by decide +kernel
theorem dX7_bestThing_58 : decode cX7_bestThing 58 = .ok (.iload 7, 2) := by decide +kernel
theorem dX7_bestThing_60 : decode cX7_bestThing 60 = .ok (.iload 5, 2) := by decide +kernel
theorem dX7_bestThing_62 : decode cX7_bestThing 62 = .ok (.invokestatic 64, 3) := by decide +kernel
theorem dX7_bestThing_65 : decode cX7_bestThing 65 = .ok (.ifCond .eq 11, 3) := by decide +kernel
theorem dX7_bestThing_68 : decode cX7_bestThing 68 = .ok (.iload 6, 2) := by decide +kernel
theorem dX7_bestThing_70 : decode cX7_bestThing 70 = .ok (.istore 4, 2) := by decide +kernel
theorem dX7_bestThing_72 : decode cX7_bestThing 72 = .ok (.iload 7, 2) := by decide +kernel
theorem dX7_bestThing_74 : decode cX7_bestThing 74 = .ok (.istore 5, 2) := by decide +kernel
theorem dX7_bestThing_76 : decode cX7_bestThing 76 = .ok (.iinc 6 1, 3) := by decide +kernel
theorem dX7_bestThing_79 : decode cX7_bestThing 79 = .ok (.goto (-70), 3) := by decide +kernel
theorem dX7_bestThing_82 : decode cX7_bestThing 82 = .ok (.iload_n 3, 1) := by decide +kernel
theorem dX7_bestThing_83 : decode cX7_bestThing 83 = .ok (.ifCond .eq 8, 3) := by decide +kernel
theorem dX7_bestThing_86 : decode cX7_bestThing 86 = .ok (.iload 4, 2) := by decide +kernel
theorem dX7_bestThing_88 : decode cX7_bestThing 88 = .ok (.goto 5, 3) := by decide +kernel
theorem dX7_bestThing_91 : decode cX7_bestThing 91 = .ok (.iload 5, 2) := by decide +kernel
theorem dX7_bestThing_93 : decode cX7_bestThing 93 = .ok (.ireturn, 1) := by decide +kernel
theorem dX7_isSooner_0 : decode cX7_isSooner 0 = .ok (.iload_n 0, 1) := by decide +kernel
theorem dX7_isSooner_1 : decode cX7_isSooner 1 = .ok (.iconst (-1), 1) := by decide +kernel
theorem dX7_isSooner_2 : decode cX7_isSooner 2 = .ok (.if_icmp .eq 17, 3) := by decide +kernel
theorem dX7_isSooner_5 : decode cX7_isSooner 5 = .ok (.iload_n 1, 1) := by decide +kernel
theorem dX7_isSooner_6 : decode cX7_isSooner 6 = .ok (.iconst (-1), 1) := by decide +kernel
theorem dX7_isSooner_7 : decode cX7_isSooner 7 = .ok (.if_icmp .eq 8, 3) := by decide +kernel
theorem dX7_isSooner_10 : decode cX7_isSooner 10 = .ok (.iload_n 0, 1) := by decide +kernel
theorem dX7_isSooner_11 : decode cX7_isSooner 11 = .ok (.iload_n 1, 1) := by decide +kernel
theorem dX7_isSooner_12 : decode cX7_isSooner 12 = .ok (.if_icmp .ge 7, 3) := by decide +kernel
theorem dX7_isSooner_15 : decode cX7_isSooner 15 = .ok (.iconst 1, 1) := by decide +kernel
theorem dX7_isSooner_16 : decode cX7_isSooner 16 = .ok (.goto 4, 3) := by decide +kernel
theorem dX7_isSooner_19 : decode cX7_isSooner 19 = .ok (.iconst 0, 1) := by decide +kernel
theorem dX7_isSooner_20 : decode cX7_isSooner 20 = .ok (.ireturn, 1) := by decide +kernel
theorem dX7_daysToShame_0 : decode cX7_daysToShame 0 = .ok (.iconst 0, 1) := by decide +kernel
theorem dX7_daysToShame_1 : decode cX7_daysToShame 1 = .ok (.istore_n 3, 1) := by decide +kernel
theorem dX7_daysToShame_2 : decode cX7_daysToShame 2 = .ok (.iload_n 3, 1) := by decide +kernel
theorem dX7_daysToShame_3 : decode cX7_daysToShame 3 = .ok (.bipush 100, 2) := by decide +kernel
theorem dX7_daysToShame_5 : decode cX7_daysToShame 5 = .ok (.if_icmp .gt 32, 3) := by decide +kernel
theorem dX7_daysToShame_8 : decode cX7_daysToShame 8 = .ok (.aload_n 0, 1) := by decide +kernel
theorem dX7_daysToShame_9 : decode cX7_daysToShame 9 = .ok (.getfield 12, 3) := by decide +kernel
theorem dX7_daysToShame_12 : decode cX7_daysToShame 12 = .ok (.getfield 77, 3) := by decide +kernel
theorem dX7_daysToShame_15 : decode cX7_daysToShame 15 = .ok (.iload_n 1, 1) := by decide +kernel
theorem dX7_daysToShame_16 : decode cX7_daysToShame 16 = .ok (.iaload, 1) := by decide +kernel
theorem dX7_daysToShame_17 : decode cX7_daysToShame 17 = .ok (.iload_n 2, 1) := by decide +kernel
theorem dX7_daysToShame_18 : decode cX7_daysToShame 18 = .ok (.if_icmp .lt 5, 3) := by decide +kernel
theorem dX7_daysToShame_21 : decode cX7_daysToShame 21 = .ok (.iload_n 3, 1) := by decide +kernel
theorem dX7_daysToShame_22 : decode cX7_daysToShame 22 = .ok (.ireturn, 1) := by decide +kernel
theorem dX7_daysToShame_23 : decode cX7_daysToShame 23 = .ok (.aload_n 0, 1) := by decide +kernel
theorem dX7_daysToShame_24 : decode cX7_daysToShame 24 = .ok (.getfield 12, 3) := by decide +kernel
theorem dX7_daysToShame_27 : decode cX7_daysToShame 27 = .ok (.iconst 0, 1) := by decide +kernel
theorem dX7_daysToShame_28 : decode cX7_daysToShame 28 = .ok (.invokevirtual 36, 3) := by decide +kernel
theorem dX7_daysToShame_31 : decode cX7_daysToShame 31 = .ok (.iinc 3 1, 3) := by decide +kernel
theorem dX7_daysToShame_34 : decode cX7_daysToShame 34 = .ok (.goto (-32), 3) := by decide +kernel
theorem dX7_daysToShame_37 : decode cX7_daysToShame 37 = .ok (.iconst (-1), 1) := by decide +kernel
theorem dX7_daysToShame_38 : decode cX7_daysToShame 38 = .ok (.ireturn, 1) := by decide +kernel
theorem dX7_neverWorn_0 : decode cX7_neverWorn 0 = .ok (.aload_n 0, 1) := by decide +kernel
theorem dX7_neverWorn_1 : decode cX7_neverWorn 1 = .ok (.getfield 12, 3) := by decide +kernel
theorem dX7_neverWorn_4 : decode cX7_neverWorn 4 = .ok (.invokevirtual 80, 3) := by decide +kernel
theorem dX7_neverWorn_7 : decode cX7_neverWorn 7 = .ok (.istore_n 2, 1) := by decide +kernel
theorem dX7_neverWorn_8 : decode cX7_neverWorn 8 = .ok (.iconst 0, 1) := by decide +kernel
theorem dX7_neverWorn_9 : decode cX7_neverWorn 9 = .ok (.istore_n 3, 1) := by decide +kernel
theorem dX7_neverWorn_10 : decode cX7_neverWorn 10 = .ok (.iload_n 3, 1) := by decide +kernel
theorem dX7_neverWorn_11 : decode cX7_neverWorn 11 = .ok (.iload_n 1, 1) := by decide +kernel
theorem dX7_neverWorn_12 : decode cX7_neverWorn 12 = .ok (.if_icmp .ge 27, 3) := by decide +kernel
theorem dX7_neverWorn_15 : decode cX7_neverWorn 15 = .ok (.aload_n 0, 1) := by decide +kernel
theorem dX7_neverWorn_16 : decode cX7_neverWorn 16 = .ok (.getfield 12, 3) := by decide +kernel
theorem dX7_neverWorn_19 : decode cX7_neverWorn 19 = .ok (.iconst 0, 1) := by decide +kernel
theorem dX7_neverWorn_20 : decode cX7_neverWorn 20 = .ok (.invokevirtual 36, 3) := by decide +kernel
theorem dX7_neverWorn_23 : decode cX7_neverWorn 23 = .ok (.iload_n 2, 1) := by decide +kernel
theorem dX7_neverWorn_24 : decode cX7_neverWorn 24 = .ok (.aload_n 0, 1) := by decide +kernel
theorem dX7_neverWorn_25 : decode cX7_neverWorn 25 = .ok (.getfield 12, 3) := by decide +kernel
theorem dX7_neverWorn_28 : decode cX7_neverWorn 28 = .ok (.invokevirtual 80, 3) := by decide +kernel
theorem dX7_neverWorn_31 : decode cX7_neverWorn 31 = .ok (.ior, 1) := by decide +kernel
theorem dX7_neverWorn_32 : decode cX7_neverWorn 32 = .ok (.istore_n 2, 1) := by decide +kernel
theorem dX7_neverWorn_33 : decode cX7_neverWorn 33 = .ok (.iinc 3 1, 3) := by decide +kernel
theorem dX7_neverWorn_36 : decode cX7_neverWorn 36 = .ok (.goto (-26), 3) := by decide +kernel
theorem dX7_neverWorn_39 : decode cX7_neverWorn 39 = .ok (.iconst 1, 1) := by decide +kernel
theorem dX7_neverWorn_40 : decode cX7_neverWorn 40 = .ok (.aload_n 0, 1) := by decide +kernel
theorem dX7_neverWorn_41 : decode cX7_neverWorn 41 = .ok (.getfield 12, 3) := by decide +kernel
theorem dX7_neverWorn_44 : decode cX7_neverWorn 44 = .ok (.getfield 46, 3) := by decide +kernel
theorem dX7_neverWorn_47 : decode cX7_neverWorn 47 = .ok (.getfield 68, 3) := by decide +kernel
theorem dX7_neverWorn_50 : decode cX7_neverWorn 50 = .ok (.ishl, 1) := by decide +kernel
theorem dX7_neverWorn_51 : decode cX7_neverWorn 51 = .ok (.iconst 1, 1) := by decide +kernel
theorem dX7_neverWorn_52 : decode cX7_neverWorn 52 = .ok (.isub, 1) := by decide +kernel
theorem dX7_neverWorn_53 : decode cX7_neverWorn 53 = .ok (.iload_n 2, 1) := by decide +kernel
theorem dX7_neverWorn_54 : decode cX7_neverWorn 54 = .ok (.iconst (-1), 1) := by decide +kernel
theorem dX7_neverWorn_55 : decode cX7_neverWorn 55 = .ok (.ixor, 1) := by decide +kernel
theorem dX7_neverWorn_56 : decode cX7_neverWorn 56 = .ok (.iand, 1) := by decide +kernel
theorem dX7_neverWorn_57 : decode cX7_neverWorn 57 = .ok (.ireturn, 1) := by decide +kernel
theorem dX7_inFog_0 : decode cX7_inFog 0 = .ok (.iconst 0, 1) := by decide +kernel
theorem dX7_inFog_1 : decode cX7_inFog 1 = .ok (.istore 5, 2) := by decide +kernel
theorem dX7_inFog_3 : decode cX7_inFog 3 = .ok (.iconst 0, 1) := by decide +kernel
theorem dX7_inFog_4 : decode cX7_inFog 4 = .ok (.istore 6, 2) := by decide +kernel
theorem dX7_inFog_6 : decode cX7_inFog 6 = .ok (.iload 6, 2) := by decide +kernel
theorem dX7_inFog_8 : decode cX7_inFog 8 = .ok (.iconst 1, 1) := by decide +kernel
theorem dX7_inFog_9 : decode cX7_inFog 9 = .ok (.iload_n 3, 1) := by decide +kernel
theorem dX7_inFog_10 : decode cX7_inFog 10 = .ok (.ishl, 1) := by decide +kernel
theorem dX7_inFog_11 : decode cX7_inFog 11 = .ok (.if_icmp .ge 103, 3) := by decide +kernel
theorem dX7_inFog_14 : decode cX7_inFog 14 = .ok (.aload_n 0, 1) := by decide +kernel
theorem dX7_inFog_15 : decode cX7_inFog 15 = .ok (.aload_n 1, 1) := by decide +kernel
theorem dX7_inFog_16 : decode cX7_inFog 16 = .ok (.invokevirtual 29, 3) := by decide +kernel
theorem dX7_inFog_19 : decode cX7_inFog 19 = .ok (.iconst 1, 1) := by decide +kernel
theorem dX7_inFog_20 : decode cX7_inFog 20 = .ok (.istore 7, 2) := by decide +kernel
theorem dX7_inFog_22 : decode cX7_inFog 22 = .ok (.iconst 0, 1) := by decide +kernel
theorem dX7_inFog_23 : decode cX7_inFog 23 = .ok (.istore 8, 2) := by decide +kernel
theorem dX7_inFog_25 : decode cX7_inFog 25 = .ok (.iload 8, 2) := by decide +kernel
theorem dX7_inFog_27 : decode cX7_inFog 27 = .ok (.iload_n 3, 1) := by decide +kernel
theorem dX7_inFog_28 : decode cX7_inFog 28 = .ok (.if_icmp .ge 55, 3) := by decide +kernel
theorem dX7_inFog_31 : decode cX7_inFog 31 = .ok (.iload 6, 2) := by decide +kernel
theorem dX7_inFog_33 : decode cX7_inFog 33 = .ok (.iload 8, 2) := by decide +kernel
theorem dX7_inFog_35 : decode cX7_inFog 35 = .ok (.ishr, 1) := by decide +kernel
theorem dX7_inFog_36 : decode cX7_inFog 36 = .ok (.iconst 1, 1) := by decide +kernel
theorem dX7_inFog_37 : decode cX7_inFog 37 = .ok (.iand, 1) := by decide +kernel
theorem dX7_inFog_38 : decode cX7_inFog 38 = .ok (.ifCond .eq 7, 3) := by decide +kernel
theorem dX7_inFog_41 : decode cX7_inFog 41 = .ok (.iconst 1, 1) := by decide +kernel
theorem dX7_inFog_42 : decode cX7_inFog 42 = .ok (.goto 4, 3) := by decide +kernel
theorem dX7_inFog_45 : decode cX7_inFog 45 = .ok (.iconst 0, 1) := by decide +kernel
theorem dX7_inFog_46 : decode cX7_inFog 46 = .ok (.istore 9, 2) := by decide +kernel
theorem dX7_inFog_48 : decode cX7_inFog 48 = .ok (.iload 7, 2) := by decide +kernel
theorem dX7_inFog_50 : decode cX7_inFog 50 = .ok (.iload 9, 2) := by decide +kernel
theorem dX7_inFog_52 : decode cX7_inFog 52 = .ok (.ifCond .eq 8, 3) := by decide +kernel
theorem dX7_inFog_55 : decode cX7_inFog 55 = .ok (.iload 4, 2) := by decide +kernel
theorem dX7_inFog_57 : decode cX7_inFog 57 = .ok (.goto 8, 3) := by decide +kernel
theorem dX7_inFog_60 : decode cX7_inFog 60 = .ok (.bipush 10, 2) := by decide +kernel
theorem dX7_inFog_62 : decode cX7_inFog 62 = .ok (.iload 4, 2) := by decide +kernel
theorem dX7_inFog_64 : decode cX7_inFog 64 = .ok (.isub, 1) := by decide +kernel
theorem dX7_inFog_65 : decode cX7_inFog 65 = .ok (.imul, 1) := by decide +kernel
theorem dX7_inFog_66 : decode cX7_inFog 66 = .ok (.istore 7, 2) := by decide +kernel
theorem dX7_inFog_68 : decode cX7_inFog 68 = .ok (.aload_n 0, 1) := by decide +kernel
theorem dX7_inFog_69 : decode cX7_inFog 69 = .ok (.getfield 12, 3) := by decide +kernel
theorem dX7_inFog_72 : decode cX7_inFog 72 = .ok (.iload 9, 2) := by decide +kernel
theorem dX7_inFog_74 : decode cX7_inFog 74 = .ok (.invokevirtual 36, 3) := by decide +kernel
theorem dX7_inFog_77 : decode cX7_inFog 77 = .ok (.iinc 8 1, 3) := by decide +kernel
theorem dX7_inFog_80 : decode cX7_inFog 80 = .ok (.goto (-55), 3) := by decide +kernel
theorem dX7_inFog_83 : decode cX7_inFog 83 = .ok (.aload_n 0, 1) := by decide +kernel
theorem dX7_inFog_84 : decode cX7_inFog 84 = .ok (.getfield 12, 3) := by decide +kernel
theorem dX7_inFog_87 : decode cX7_inFog 87 = .ok (.getfield 43, 3) := by decide +kernel
theorem dX7_inFog_90 : decode cX7_inFog 90 = .ok (.iload_n 2, 1) := by decide +kernel
theorem dX7_inFog_91 : decode cX7_inFog 91 = .ok (.iaload, 1) := by decide +kernel
theorem dX7_inFog_92 : decode cX7_inFog 92 = .ok (.aload_n 1, 1) := by decide +kernel
theorem dX7_inFog_93 : decode cX7_inFog 93 = .ok (.getfield 43, 3) := by decide +kernel
theorem dX7_inFog_96 : decode cX7_inFog 96 = .ok (.iload_n 2, 1) := by decide +kernel
theorem dX7_inFog_97 : decode cX7_inFog 97 = .ok (.iaload, 1) := by decide +kernel
theorem dX7_inFog_98 : decode cX7_inFog 98 = .ok (.if_icmp .eq 10, 3) := by decide +kernel
theorem dX7_inFog_101 : decode cX7_inFog 101 = .ok (.iload 5, 2) := by decide +kernel
theorem dX7_inFog_103 : decode cX7_inFog 103 = .ok (.iload 7, 2) := by decide +kernel
theorem dX7_inFog_105 : decode cX7_inFog 105 = .ok (.iadd, 1) := by decide +kernel
theorem dX7_inFog_106 : decode cX7_inFog 106 = .ok (.istore 5, 2) := by decide +kernel
theorem dX7_inFog_108 : decode cX7_inFog 108 = .ok (.iinc 6 1, 3) := by decide +kernel
theorem dX7_inFog_111 : decode cX7_inFog 111 = .ok (.goto (-105), 3) := by decide +kernel
theorem dX7_inFog_114 : decode cX7_inFog 114 = .ok (.iload 5, 2) := by decide +kernel
theorem dX7_inFog_116 : decode cX7_inFog 116 = .ok (.ireturn, 1) := by decide +kernel
theorem dX7_play_0 : decode cX7_play 0 = .ok (.iconst 0, 1) := by decide +kernel
theorem dX7_play_1 : decode cX7_play 1 = .ok (.istore 4, 2) := by decide +kernel
theorem dX7_play_3 : decode cX7_play 3 = .ok (.iload 4, 2) := by decide +kernel
theorem dX7_play_5 : decode cX7_play 5 = .ok (.iconst 4, 1) := by decide +kernel
theorem dX7_play_6 : decode cX7_play 6 = .ok (.if_icmp .ge 74, 3) := by decide +kernel
theorem dX7_play_9 : decode cX7_play 9 = .ok (.aload_n 0, 1) := by decide +kernel
theorem dX7_play_10 : decode cX7_play 10 = .ok (.aload_n 1, 1) := by decide +kernel
theorem dX7_play_11 : decode cX7_play 11 = .ok (.invokevirtual 29, 3) := by decide +kernel
theorem dX7_play_14 : decode cX7_play 14 = .ok (.iload 4, 2) := by decide +kernel
theorem dX7_play_16 : decode cX7_play 16 = .ok (.iconst 2, 1) := by decide +kernel
theorem dX7_play_17 : decode cX7_play 17 = .ok (.iand, 1) := by decide +kernel
theorem dX7_play_18 : decode cX7_play 18 = .ok (.ifCond .eq 11, 3) := by decide +kernel
theorem dX7_play_21 : decode cX7_play 21 = .ok (.aload_n 0, 1) := by decide +kernel
theorem dX7_play_22 : decode cX7_play 22 = .ok (.getfield 12, 3) := by decide +kernel
theorem dX7_play_25 : decode cX7_play 25 = .ok (.iload_n 2, 1) := by decide +kernel
theorem dX7_play_26 : decode cX7_play 26 = .ok (.invokevirtual 84, 3) := by decide +kernel
theorem dX7_play_29 : decode cX7_play 29 = .ok (.iload 4, 2) := by decide +kernel
theorem dX7_play_31 : decode cX7_play 31 = .ok (.iconst 1, 1) := by decide +kernel
theorem dX7_play_32 : decode cX7_play 32 = .ok (.iand, 1) := by decide +kernel
theorem dX7_play_33 : decode cX7_play 33 = .ok (.ifCond .eq 11, 3) := by decide +kernel
theorem dX7_play_36 : decode cX7_play 36 = .ok (.aload_n 0, 1) := by decide +kernel
theorem dX7_play_37 : decode cX7_play 37 = .ok (.getfield 12, 3) := by decide +kernel
theorem dX7_play_40 : decode cX7_play 40 = .ok (.iload_n 3, 1) := by decide +kernel
theorem dX7_play_41 : decode cX7_play 41 = .ok (.invokevirtual 84, 3) := by decide +kernel
theorem dX7_play_44 : decode cX7_play 44 = .ok (.aload_n 0, 1) := by decide +kernel
theorem dX7_play_45 : decode cX7_play 45 = .ok (.bipush 12, 2) := by decide +kernel
theorem dX7_play_47 : decode cX7_play 47 = .ok (.invokevirtual 32, 3) := by decide +kernel
theorem dX7_play_50 : decode cX7_play 50 = .ok (.aload_n 0, 1) := by decide +kernel
theorem dX7_play_51 : decode cX7_play 51 = .ok (.getfield 18, 3) := by decide +kernel
theorem dX7_play_54 : decode cX7_play 54 = .ok (.iload 4, 2) := by decide +kernel
theorem dX7_play_56 : decode cX7_play 56 = .ok (.aload_n 0, 1) := by decide +kernel
theorem dX7_play_57 : decode cX7_play 57 = .ok (.iload_n 2, 1) := by decide +kernel
theorem dX7_play_58 : decode cX7_play 58 = .ok (.invokevirtual 87, 3) := by decide +kernel
theorem dX7_play_61 : decode cX7_play 61 = .ok (.iastore, 1) := by decide +kernel
theorem dX7_play_62 : decode cX7_play 62 = .ok (.aload_n 0, 1) := by decide +kernel
theorem dX7_play_63 : decode cX7_play 63 = .ok (.getfield 22, 3) := by decide +kernel
theorem dX7_play_66 : decode cX7_play 66 = .ok (.iload 4, 2) := by decide +kernel
theorem dX7_play_68 : decode cX7_play 68 = .ok (.aload_n 0, 1) := by decide +kernel
theorem dX7_play_69 : decode cX7_play 69 = .ok (.iload_n 3, 1) := by decide +kernel
theorem dX7_play_70 : decode cX7_play 70 = .ok (.invokevirtual 87, 3) := by decide +kernel
theorem dX7_play_73 : decode cX7_play 73 = .ok (.iastore, 1) := by decide +kernel
theorem dX7_play_74 : decode cX7_play 74 = .ok (.iinc 4 1, 3) := by decide +kernel
theorem dX7_play_77 : decode cX7_play 77 = .ok (.goto (-74), 3) := by decide +kernel
theorem dX7_play_80 : decode cX7_play 80 = .ok (.return_, 1) := by decide +kernel
theorem dX7_gain_0 : decode cX7_gain 0 = .ok (.iconst 4, 1) := by decide +kernel
theorem dX7_gain_1 : decode cX7_gain 1 = .ok (.aload_n 0, 1) := by decide +kernel
theorem dX7_gain_2 : decode cX7_gain 2 = .ok (.getfield 12, 3) := by decide +kernel
theorem dX7_gain_5 : decode cX7_gain 5 = .ok (.iload_n 1, 1) := by decide +kernel
theorem dX7_gain_6 : decode cX7_gain 6 = .ok (.invokevirtual 91, 3) := by decide +kernel
theorem dX7_gain_9 : decode cX7_gain 9 = .ok (.invokestatic 94, 3) := by decide +kernel
theorem dX7_gain_12 : decode cX7_gain 12 = .ok (.imul, 1) := by decide +kernel
theorem dX7_gain_13 : decode cX7_gain 13 = .ok (.aload_n 0, 1) := by decide +kernel
theorem dX7_gain_14 : decode cX7_gain 14 = .ok (.getfield 12, 3) := by decide +kernel
theorem dX7_gain_17 : decode cX7_gain 17 = .ok (.getfield 77, 3) := by decide +kernel
theorem dX7_gain_20 : decode cX7_gain 20 = .ok (.iload_n 1, 1) := by decide +kernel
theorem dX7_gain_21 : decode cX7_gain 21 = .ok (.iaload, 1) := by decide +kernel
theorem dX7_gain_22 : decode cX7_gain 22 = .ok (.bipush 8, 2) := by decide +kernel
theorem dX7_gain_24 : decode cX7_gain 24 = .ok (.idiv, 1) := by decide +kernel
theorem dX7_gain_25 : decode cX7_gain 25 = .ok (.isub, 1) := by decide +kernel
theorem dX7_gain_26 : decode cX7_gain 26 = .ok (.ireturn, 1) := by decide +kernel
theorem dX7_rests_0 : decode cX7_rests 0 = .ok (.aload_n 0, 1) := by decide +kernel
theorem dX7_rests_1 : decode cX7_rests 1 = .ok (.getfield 18, 3) := by decide +kernel
theorem dX7_rests_4 : decode cX7_rests 4 = .ok (.iload_n 1, 1) := by decide +kernel
theorem dX7_rests_5 : decode cX7_rests 5 = .ok (.iaload, 1) := by decide +kernel
theorem dX7_rests_6 : decode cX7_rests 6 = .ok (.aload_n 0, 1) := by decide +kernel
theorem dX7_rests_7 : decode cX7_rests 7 = .ok (.getfield 18, 3) := by decide +kernel
theorem dX7_rests_10 : decode cX7_rests 10 = .ok (.iload_n 1, 1) := by decide +kernel
theorem dX7_rests_11 : decode cX7_rests 11 = .ok (.iconst 2, 1) := by decide +kernel
theorem dX7_rests_12 : decode cX7_rests 12 = .ok (.ixor, 1) := by decide +kernel
theorem dX7_rests_13 : decode cX7_rests 13 = .ok (.iaload, 1) := by decide +kernel
theorem dX7_rests_14 : decode cX7_rests 14 = .ok (.if_icmp .lt 24, 3) := by decide +kernel
theorem dX7_rests_17 : decode cX7_rests 17 = .ok (.aload_n 0, 1) := by decide +kernel
theorem dX7_rests_18 : decode cX7_rests 18 = .ok (.getfield 22, 3) := by decide +kernel
theorem dX7_rests_21 : decode cX7_rests 21 = .ok (.iload_n 1, 1) := by decide +kernel
theorem dX7_rests_22 : decode cX7_rests 22 = .ok (.iaload, 1) := by decide +kernel
theorem dX7_rests_23 : decode cX7_rests 23 = .ok (.aload_n 0, 1) := by decide +kernel
theorem dX7_rests_24 : decode cX7_rests 24 = .ok (.getfield 22, 3) := by decide +kernel
theorem dX7_rests_27 : decode cX7_rests 27 = .ok (.iload_n 1, 1) := by decide +kernel
theorem dX7_rests_28 : decode cX7_rests 28 = .ok (.iconst 1, 1) := by decide +kernel
theorem dX7_rests_29 : decode cX7_rests 29 = .ok (.ixor, 1) := by decide +kernel
theorem dX7_rests_30 : decode cX7_rests 30 = .ok (.iaload, 1) := by decide +kernel
theorem dX7_rests_31 : decode cX7_rests 31 = .ok (.if_icmp .lt 7, 3) := by decide +kernel
theorem dX7_rests_34 : decode cX7_rests 34 = .ok (.iconst 1, 1) := by decide +kernel
theorem dX7_rests_35 : decode cX7_rests 35 = .ok (.goto 4, 3) := by decide +kernel
theorem dX7_rests_38 : decode cX7_rests 38 = .ok (.iconst 0, 1) := by decide +kernel
theorem dX7_rests_39 : decode cX7_rests 39 = .ok (.ireturn, 1) := by decide +kernel
theorem dX7_couplesAtRest_0 : decode cX7_couplesAtRest 0 = .ok (.iconst 0, 1) := by decide +kernel
theorem dX7_couplesAtRest_1 : decode cX7_couplesAtRest 1 = .ok (.istore_n 1, 1) := by decide +kernel
theorem dX7_couplesAtRest_2 : decode cX7_couplesAtRest 2 = .ok (.iconst 0, 1) := by decide +kernel
theorem dX7_couplesAtRest_3 : decode cX7_couplesAtRest 3 = .ok (.istore_n 2, 1) := by decide +kernel
theorem dX7_couplesAtRest_4 : decode cX7_couplesAtRest 4 = .ok (.iload_n 2, 1) := by decide +kernel
theorem dX7_couplesAtRest_5 : decode cX7_couplesAtRest 5 = .ok (.iconst 4, 1) := by decide +kernel
theorem dX7_couplesAtRest_6 : decode cX7_couplesAtRest 6 = .ok (.if_icmp .ge 20, 3) := by decide +kernel
theorem dX7_couplesAtRest_9 : decode cX7_couplesAtRest 9 = .ok (.aload_n 0, 1) := by decide +kernel
theorem dX7_couplesAtRest_10 : decode cX7_couplesAtRest 10 = .ok (.iload_n 2, 1) := by decide +kernel
theorem dX7_couplesAtRest_11 : decode cX7_couplesAtRest 11 = .ok (.invokevirtual 99, 3) := by decide +kernel
theorem dX7_couplesAtRest_14 : decode cX7_couplesAtRest 14 = .ok (.ifCond .eq 6, 3) := by decide +kernel
theorem dX7_couplesAtRest_17 : decode cX7_couplesAtRest 17 = .ok (.iinc 1 1, 3) := by decide +kernel
theorem dX7_couplesAtRest_20 : decode cX7_couplesAtRest 20 = .ok (.iinc 2 1, 3) := by decide +kernel
theorem dX7_couplesAtRest_23 : decode cX7_couplesAtRest 23 = .ok (.goto (-19), 3) := by decide +kernel
theorem dX7_couplesAtRest_26 : decode cX7_couplesAtRest 26 = .ok (.iload_n 1, 1) := by decide +kernel
theorem dX7_couplesAtRest_27 : decode cX7_couplesAtRest 27 = .ok (.ireturn, 1) := by decide +kernel
theorem dX7_firstCoupleAtRest_0 : decode cX7_firstCoupleAtRest 0 = .ok (.iconst 0, 1) := by decide +kernel
theorem dX7_firstCoupleAtRest_1 : decode cX7_firstCoupleAtRest 1 = .ok (.istore_n 1, 1) := by decide +kernel
theorem dX7_firstCoupleAtRest_2 : decode cX7_firstCoupleAtRest 2 = .ok (.iload_n 1, 1) := by decide +kernel
theorem dX7_firstCoupleAtRest_3 : decode cX7_firstCoupleAtRest 3 = .ok (.iconst 4, 1) := by decide +kernel
theorem dX7_firstCoupleAtRest_4 : decode cX7_firstCoupleAtRest 4 = .ok (.if_icmp .ge 28, 3) := by decide +kernel
theorem dX7_firstCoupleAtRest_7 : decode cX7_firstCoupleAtRest 7 = .ok (.aload_n 0, 1) := by decide +kernel
theorem dX7_firstCoupleAtRest_8 : decode cX7_firstCoupleAtRest 8 = .ok (.iload_n 1, 1) := by decide +kernel
theorem dX7_firstCoupleAtRest_9 : decode cX7_firstCoupleAtRest 9 = .ok (.invokevirtual 99, 3) := by decide +kernel
theorem dX7_firstCoupleAtRest_12 : decode cX7_firstCoupleAtRest 12 = .ok (.ifCond .eq 14, 3) := by decide +kernel
theorem dX7_firstCoupleAtRest_15 : decode cX7_firstCoupleAtRest 15 = .ok (.bipush 10, 2) := by decide +kernel
theorem dX7_firstCoupleAtRest_17 : decode cX7_firstCoupleAtRest 17 = .ok (.iload_n 1, 1) := by decide +kernel
theorem dX7_firstCoupleAtRest_18 : decode cX7_firstCoupleAtRest 18 = .ok (.iconst 1, 1) := by decide +kernel
theorem dX7_firstCoupleAtRest_19 : decode cX7_firstCoupleAtRest 19 = .ok (.ishr, 1) := by decide +kernel
theorem dX7_firstCoupleAtRest_20 : decode cX7_firstCoupleAtRest 20 = .ok (.imul, 1) := by decide +kernel
theorem dX7_firstCoupleAtRest_21 : decode cX7_firstCoupleAtRest 21 = .ok (.iload_n 1, 1) := by decide +kernel
theorem dX7_firstCoupleAtRest_22 : decode cX7_firstCoupleAtRest 22 = .ok (.iconst 1, 1) := by decide +kernel
theorem dX7_firstCoupleAtRest_23 : decode cX7_firstCoupleAtRest 23 = .ok (.iand, 1) := by decide +kernel
theorem dX7_firstCoupleAtRest_24 : decode cX7_firstCoupleAtRest 24 = .ok (.iadd, 1) := by decide +kernel
theorem dX7_firstCoupleAtRest_25 : decode cX7_firstCoupleAtRest 25 = .ok (.ireturn, 1) := by decide +kernel
theorem dX7_firstCoupleAtRest_26 : decode cX7_firstCoupleAtRest 26 = .ok (.iinc 1 1, 3) := by decide +kernel
theorem dX7_firstCoupleAtRest_29 : decode cX7_firstCoupleAtRest 29 = .ok (.goto (-27), 3) := by decide +kernel
theorem dX7_firstCoupleAtRest_32 : decode cX7_firstCoupleAtRest 32 = .ok (.iconst (-1), 1) := by decide +kernel
theorem dX7_firstCoupleAtRest_33 : decode cX7_firstCoupleAtRest 33 = .ok (.ireturn, 1) := by decide +kernel
theorem dX7_drawYears_0 : decode cX7_drawYears 0 = .ok (.aload_n 0, 1) := by decide +kernel
theorem dX7_drawYears_1 : decode cX7_drawYears 1 = .ok (.aload_n 1, 1) := by decide +kernel
theorem dX7_drawYears_2 : decode cX7_drawYears 2 = .ok (.invokevirtual 29, 3) := by decide +kernel
theorem dX7_drawYears_5 : decode cX7_drawYears 5 = .ok (.aload_n 0, 1) := by decide +kernel
theorem dX7_drawYears_6 : decode cX7_drawYears 6 = .ok (.iload_n 2, 1) := by decide +kernel
theorem dX7_drawYears_7 : decode cX7_drawYears 7 = .ok (.putfield 103, 3) := by decide +kernel
theorem dX7_drawYears_10 : decode cX7_drawYears 10 = .ok (.iconst 0, 1) := by decide +kernel
theorem dX7_drawYears_11 : decode cX7_drawYears 11 = .ok (.istore 4, 2) := by decide +kernel
theorem dX7_drawYears_13 : decode cX7_drawYears 13 = .ok (.iload 4, 2) := by decide +kernel
theorem dX7_drawYears_15 : decode cX7_drawYears 15 = .ok (.iload_n 3, 1) := by decide +kernel
theorem dX7_drawYears_16 : decode cX7_drawYears 16 = .ok (.if_icmp .ge 56, 3) := by decide +kernel
theorem dX7_drawYears_19 : decode cX7_drawYears 19 = .ok (.aload_n 0, 1) := by decide +kernel
theorem dX7_drawYears_20 : decode cX7_drawYears 20 = .ok (.iconst 5, 1) := by decide +kernel
theorem dX7_drawYears_21 : decode cX7_drawYears 21 = .ok (.invokevirtual 106, 3) := by decide +kernel
theorem dX7_drawYears_24 : decode cX7_drawYears 24 = .ok (.istore 5, 2) := by decide +kernel
theorem dX7_drawYears_26 : decode cX7_drawYears 26 = .ok (.aload_n 0, 1) := by decide +kernel
theorem dX7_drawYears_27 : decode cX7_drawYears 27 = .ok (.getfield 12, 3) := by decide +kernel
theorem dX7_drawYears_30 : decode cX7_drawYears 30 = .ok (.getfield 46, 3) := by decide +kernel
theorem dX7_drawYears_33 : decode cX7_drawYears 33 = .ok (.getfield 109, 3) := by decide +kernel
theorem dX7_drawYears_36 : decode cX7_drawYears 36 = .ok (.ifCond .le 22, 3) := by decide +kernel
theorem dX7_drawYears_39 : decode cX7_drawYears 39 = .ok (.aload_n 0, 1) := by decide +kernel
theorem dX7_drawYears_40 : decode cX7_drawYears 40 = .ok (.getfield 12, 3) := by decide +kernel
theorem dX7_drawYears_43 : decode cX7_drawYears 43 = .ok (.getfield 46, 3) := by decide +kernel
theorem dX7_drawYears_46 : decode cX7_drawYears 46 = .ok (.getfield 68, 3) := by decide +kernel
theorem dX7_drawYears_49 : decode cX7_drawYears 49 = .ok (.ifCond .le 9, 3) := by decide +kernel
theorem dX7_drawYears_52 : decode cX7_drawYears 52 = .ok (.aload_n 0, 1) := by decide +kernel
theorem dX7_drawYears_53 : decode cX7_drawYears 53 = .ok (.iload 5, 2) := by decide +kernel
theorem dX7_drawYears_55 : decode cX7_drawYears 55 = .ok (.invokevirtual 112, 3) := by decide +kernel
theorem dX7_drawYears_58 : decode cX7_drawYears 58 = .ok (.aload_n 0, 1) := by decide +kernel
theorem dX7_drawYears_59 : decode cX7_drawYears 59 = .ok (.getfield 12, 3) := by decide +kernel
theorem dX7_drawYears_62 : decode cX7_drawYears 62 = .ok (.iconst 0, 1) := by decide +kernel
theorem dX7_drawYears_63 : decode cX7_drawYears 63 = .ok (.invokevirtual 36, 3) := by decide +kernel
theorem dX7_drawYears_66 : decode cX7_drawYears 66 = .ok (.iinc 4 1, 3) := by decide +kernel
theorem dX7_drawYears_69 : decode cX7_drawYears 69 = .ok (.goto (-56), 3) := by decide +kernel
theorem dX7_drawYears_72 : decode cX7_drawYears 72 = .ok (.aload_n 0, 1) := by decide +kernel
theorem dX7_drawYears_73 : decode cX7_drawYears 73 = .ok (.getfield 12, 3) := by decide +kernel
theorem dX7_drawYears_76 : decode cX7_drawYears 76 = .ok (.areturn, 1) := by decide +kernel
theorem dX7_happen_0 : decode cX7_happen 0 = .ok (.iload_n 1, 1) := by decide +kernel
theorem dX7_happen_1 : decode cX7_happen 1 = .ok (.ifCond .ne 57, 3) := by decide +kernel
theorem dX7_happen_4 : decode cX7_happen 4 = .ok (.aload_n 0, 1) := by decide +kernel
theorem dX7_happen_5 : decode cX7_happen 5 = .ok (.aload_n 0, 1) := by decide +kernel
theorem dX7_happen_6 : decode cX7_happen 6 = .ok (.getfield 12, 3) := by decide +kernel
theorem dX7_happen_9 : decode cX7_happen 9 = .ok (.getfield 46, 3) := by decide +kernel
theorem dX7_happen_12 : decode cX7_happen 12 = .ok (.getfield 109, 3) := by decide +kernel
theorem dX7_happen_15 : decode cX7_happen 15 = .ok (.invokevirtual 106, 3) := by decide +kernel
theorem dX7_happen_18 : decode cX7_happen 18 = .ok (.istore_n 2, 1) := by decide +kernel
theorem dX7_happen_19 : decode cX7_happen 19 = .ok (.aload_n 0, 1) := by decide +kernel
theorem dX7_happen_20 : decode cX7_happen 20 = .ok (.aload_n 0, 1) := by decide +kernel
theorem dX7_happen_21 : decode cX7_happen 21 = .ok (.getfield 12, 3) := by decide +kernel
theorem dX7_happen_24 : decode cX7_happen 24 = .ok (.getfield 46, 3) := by decide +kernel
theorem dX7_happen_27 : decode cX7_happen 27 = .ok (.getfield 68, 3) := by decide +kernel
theorem dX7_happen_30 : decode cX7_happen 30 = .ok (.invokevirtual 106, 3) := by decide +kernel
theorem dX7_happen_33 : decode cX7_happen 33 = .ok (.istore_n 3, 1) := by decide +kernel
theorem dX7_happen_34 : decode cX7_happen 34 = .ok (.aload_n 0, 1) := by decide +kernel
theorem dX7_happen_35 : decode cX7_happen 35 = .ok (.getfield 12, 3) := by decide +kernel
theorem dX7_happen_38 : decode cX7_happen 38 = .ok (.iload_n 2, 1) := by decide +kernel
theorem dX7_happen_39 : decode cX7_happen 39 = .ok (.iload_n 3, 1) := by decide +kernel
theorem dX7_happen_40 : decode cX7_happen 40 = .ok (.invokevirtual 71, 3) := by decide +kernel
theorem dX7_happen_43 : decode cX7_happen 43 = .ok (.ifCond .eq 12, 3) := by decide +kernel
theorem dX7_happen_46 : decode cX7_happen 46 = .ok (.aload_n 0, 1) := by decide +kernel
theorem dX7_happen_47 : decode cX7_happen 47 = .ok (.getfield 12, 3) := by decide +kernel
theorem dX7_happen_50 : decode cX7_happen 50 = .ok (.iload_n 2, 1) := by decide +kernel
theorem dX7_happen_51 : decode cX7_happen 51 = .ok (.iload_n 3, 1) := by decide +kernel
theorem dX7_happen_52 : decode cX7_happen 52 = .ok (.invokevirtual 74, 3) := by decide +kernel
theorem dX7_happen_55 : decode cX7_happen 55 = .ok (.goto 69, 3) := by decide +kernel
theorem dX7_happen_58 : decode cX7_happen 58 = .ok (.iload_n 1, 1) := by decide +kernel
theorem dX7_happen_59 : decode cX7_happen 59 = .ok (.iconst 1, 1) := by decide +kernel
theorem dX7_happen_60 : decode cX7_happen 60 = .ok (.if_icmp .ne 36, 3) := by decide +kernel
theorem dX7_happen_63 : decode cX7_happen 63 = .ok (.aload_n 0, 1) := by decide +kernel
theorem dX7_happen_64 : decode cX7_happen 64 = .ok (.aload_n 0, 1) := by decide +kernel
theorem dX7_happen_65 : decode cX7_happen 65 = .ok (.getfield 12, 3) := by decide +kernel
theorem dX7_happen_68 : decode cX7_happen 68 = .ok (.getfield 46, 3) := by decide +kernel
theorem dX7_happen_71 : decode cX7_happen 71 = .ok (.getfield 68, 3) := by decide +kernel
theorem dX7_happen_74 : decode cX7_happen 74 = .ok (.invokevirtual 106, 3) := by decide +kernel
theorem dX7_happen_77 : decode cX7_happen 77 = .ok (.istore_n 2, 1) := by decide +kernel
theorem dX7_happen_78 : decode cX7_happen 78 = .ok (.aload_n 0, 1) := by decide +kernel
theorem dX7_happen_79 : decode cX7_happen 79 = .ok (.getfield 12, 3) := by decide +kernel
theorem dX7_happen_82 : decode cX7_happen 82 = .ok (.getfield 115, 3) := by decide +kernel
theorem dX7_happen_85 : decode cX7_happen 85 = .ok (.iload_n 2, 1) := by decide +kernel
theorem dX7_happen_86 : decode cX7_happen 86 = .ok (.aload_n 0, 1) := by decide +kernel
theorem dX7_happen_87 : decode cX7_happen 87 = .ok (.bipush 10, 2) := by decide +kernel
theorem dX7_happen_89 : decode cX7_happen 89 = .ok (.invokevirtual 106, 3) := by decide +kernel
theorem dX7_happen_92 : decode cX7_happen 92 = .ok (.iastore, 1) := by decide +kernel
theorem dX7_happen_93 : decode cX7_happen 93 = .ok (.goto 31, 3) := by decide +kernel
theorem dX7_happen_96 : decode cX7_happen 96 = .ok (.iload_n 1, 1) := by decide +kernel
theorem dX7_happen_97 : decode cX7_happen 97 = .ok (.iconst 2, 1) := by decide +kernel
theorem dX7_happen_98 : decode cX7_happen 98 = .ok (.if_icmp .ne 26, 3) := by decide +kernel
theorem dX7_happen_101 : decode cX7_happen 101 = .ok (.aload_n 0, 1) := by decide +kernel
theorem dX7_happen_102 : decode cX7_happen 102 = .ok (.getfield 12, 3) := by decide +kernel
theorem dX7_happen_105 : decode cX7_happen 105 = .ok (.getfield 77, 3) := by decide +kernel
theorem dX7_happen_108 : decode cX7_happen 108 = .ok (.aload_n 0, 1) := by decide +kernel
theorem dX7_happen_109 : decode cX7_happen 109 = .ok (.aload_n 0, 1) := by decide +kernel
theorem dX7_happen_110 : decode cX7_happen 110 = .ok (.getfield 12, 3) := by decide +kernel
theorem dX7_happen_113 : decode cX7_happen 113 = .ok (.getfield 46, 3) := by decide +kernel
theorem dX7_happen_116 : decode cX7_happen 116 = .ok (.getfield 109, 3) := by decide +kernel
theorem dX7_happen_119 : decode cX7_happen 119 = .ok (.invokevirtual 106, 3) := by decide +kernel
theorem dX7_happen_122 : decode cX7_happen 122 = .ok (.iconst 0, 1) := by decide +kernel
theorem dX7_happen_123 : decode cX7_happen 123 = .ok (.iastore, 1) := by decide +kernel
theorem dX7_happen_124 : decode cX7_happen 124 = .ok (.return_, 1) := by decide +kernel
theorem dX7_draw_0 : decode cX7_draw 0 = .ok (.aload_n 0, 1) := by decide +kernel
theorem dX7_draw_1 : decode cX7_draw 1 = .ok (.aload_n 0, 1) := by decide +kernel
theorem dX7_draw_2 : decode cX7_draw 2 = .ok (.getfield 103, 3) := by decide +kernel
theorem dX7_draw_5 : decode cX7_draw 5 = .ok (.ldc 118, 2) := by decide +kernel
theorem dX7_draw_7 : decode cX7_draw 7 = .ok (.imul, 1) := by decide +kernel
theorem dX7_draw_8 : decode cX7_draw 8 = .ok (.sipush 12345, 3) := by decide +kernel
theorem dX7_draw_11 : decode cX7_draw 11 = .ok (.iadd, 1) := by decide +kernel
theorem dX7_draw_12 : decode cX7_draw 12 = .ok (.putfield 103, 3) := by decide +kernel
theorem dX7_draw_15 : decode cX7_draw 15 = .ok (.iload_n 1, 1) := by decide +kernel
theorem dX7_draw_16 : decode cX7_draw 16 = .ok (.iconst 1, 1) := by decide +kernel
theorem dX7_draw_17 : decode cX7_draw 17 = .ok (.if_icmp .ge 7, 3) := by decide +kernel
theorem dX7_draw_20 : decode cX7_draw 20 = .ok (.iconst 0, 1) := by decide +kernel
theorem dX7_draw_21 : decode cX7_draw 21 = .ok (.goto 16, 3) := by decide +kernel
theorem dX7_draw_24 : decode cX7_draw 24 = .ok (.aload_n 0, 1) := by decide +kernel
theorem dX7_draw_25 : decode cX7_draw 25 = .ok (.getfield 103, 3) := by decide +kernel
theorem dX7_draw_28 : decode cX7_draw 28 = .ok (.bipush 16, 2) := by decide +kernel
theorem dX7_draw_30 : decode cX7_draw 30 = .ok (.iushr, 1) := by decide +kernel
theorem dX7_draw_31 : decode cX7_draw 31 = .ok (.sipush 32767, 3) := by decide +kernel
theorem dX7_draw_34 : decode cX7_draw 34 = .ok (.iand, 1) := by decide +kernel
theorem dX7_draw_35 : decode cX7_draw 35 = .ok (.iload_n 1, 1) := by decide +kernel
theorem dX7_draw_36 : decode cX7_draw 36 = .ok (.irem, 1) := by decide +kernel
theorem dX7_draw_37 : decode cX7_draw 37 = .ok (.ireturn, 1) := by decide +kernel
theorem dX8_init_0 : decode cX8_init 0 = .ok (.aload_n 0, 1) := by decide +kernel
theorem dX8_init_1 : decode cX8_init 1 = .ok (.invokespecial 3, 3) := by decide +kernel
theorem dX8_init_4 : decode cX8_init 4 = .ok (.aload_n 0, 1) := by decide +kernel
theorem dX8_init_5 : decode cX8_init 5 = .ok (.bipush 72, 2) := by decide +kernel
theorem dX8_init_7 : decode cX8_init 7 = .ok (.newarray .int, 2) := by decide +kernel
theorem dX8_init_9 : decode cX8_init 9 = .ok (.putfield 11, 3) := by decide +kernel
theorem dX8_init_12 : decode cX8_init 12 = .ok (.aload_n 0, 1) := by decide +kernel
theorem dX8_init_13 : decode cX8_init 13 = .ok (.sipush 720, 3) := by decide +kernel
theorem dX8_init_16 : decode cX8_init 16 = .ok (.newarray .int, 2) := by decide +kernel
theorem dX8_init_18 : decode cX8_init 18 = .ok (.putfield 15, 3) := by decide +kernel
theorem dX8_init_21 : decode cX8_init 21 = .ok (.return_, 1) := by decide +kernel
theorem dX8_find_0 : decode cX8_find 0 = .ok (.aload_n 0, 1) := by decide +kernel
theorem dX8_find_1 : decode cX8_find 1 = .ok (.iconst 0, 1) := by decide +kernel
theorem dX8_find_2 : decode cX8_find 2 = .ok (.putfield 18, 3) := by decide +kernel
theorem dX8_find_5 : decode cX8_find 5 = .ok (.aload_n 3, 1) := by decide +kernel
theorem dX8_find_6 : decode cX8_find 6 = .ok (.aload_n 1, 1) := by decide +kernel
theorem dX8_find_7 : decode cX8_find 7 = .ok (.invokevirtual 22, 3) := by decide +kernel
theorem dX8_find_10 : decode cX8_find 10 = .ok (.aload_n 2, 1) := by decide +kernel
theorem dX8_find_11 : decode cX8_find 11 = .ok (.aload_n 3, 1) := by decide +kernel
theorem dX8_find_12 : decode cX8_find 12 = .ok (.getfield 28, 3) := by decide +kernel
theorem dX8_find_15 : decode cX8_find 15 = .ok (.invokevirtual 32, 3) := by decide +kernel
theorem dX8_find_18 : decode cX8_find 18 = .ok (.istore 4, 2) := by decide +kernel
theorem dX8_find_20 : decode cX8_find 20 = .ok (.iconst 0, 1) := by decide +kernel
theorem dX8_find_21 : decode cX8_find 21 = .ok (.istore 5, 2) := by decide +kernel
theorem dX8_find_23 : decode cX8_find 23 = .ok (.iload 5, 2) := by decide +kernel
theorem dX8_find_25 : decode cX8_find 25 = .ok (.aload_n 1, 1) := by decide +kernel
theorem dX8_find_26 : decode cX8_find 26 = .ok (.getfield 38, 3) := by decide +kernel
theorem dX8_find_29 : decode cX8_find 29 = .ok (.getfield 44, 3) := by decide +kernel
theorem dX8_find_32 : decode cX8_find 32 = .ok (.if_icmp .ge 138, 3) := by decide +kernel
theorem dX8_find_35 : decode cX8_find 35 = .ok (.aload_n 1, 1) := by decide +kernel
theorem dX8_find_36 : decode cX8_find 36 = .ok (.iload 5, 2) := by decide +kernel
theorem dX8_find_38 : decode cX8_find 38 = .ok (.invokevirtual 49, 3) := by decide +kernel
theorem dX8_find_41 : decode cX8_find 41 = .ok (.ifCond .eq 7, 3) := by decide +kernel
theorem dX8_find_44 : decode cX8_find 44 = .ok (.iconst 1, 1) := by decide +kernel
theorem dX8_find_45 : decode cX8_find 45 = .ok (.goto 4, 3) := by decide +kernel
theorem dX8_find_48 : decode cX8_find 48 = .ok (.iconst 0, 1) := by decide +kernel
theorem dX8_find_49 : decode cX8_find 49 = .ok (.istore 6, 2) := by decide +kernel
theorem dX8_find_51 : decode cX8_find 51 = .ok (.iconst 0, 1) := by decide +kernel
theorem dX8_find_52 : decode cX8_find 52 = .ok (.istore 7, 2) := by decide +kernel
theorem dX8_find_54 : decode cX8_find 54 = .ok (.iload 7, 2) := by decide +kernel
theorem dX8_find_56 : decode cX8_find 56 = .ok (.bipush 9, 2) := by decide +kernel
theorem dX8_find_58 : decode cX8_find 58 = .ok (.if_icmp .gt 106, 3) := by decide +kernel
theorem dX8_find_61 : decode cX8_find 61 = .ok (.iload 7, 2) := by decide +kernel
theorem dX8_find_63 : decode cX8_find 63 = .ok (.aload_n 1, 1) := by decide +kernel
theorem dX8_find_64 : decode cX8_find 64 = .ok (.getfield 53, 3) := by decide +kernel
theorem dX8_find_67 : decode cX8_find 67 = .ok (.iload 5, 2) := by decide +kernel
theorem dX8_find_69 : decode cX8_find 69 = .ok (.iaload, 1) := by decide +kernel
theorem dX8_find_70 : decode cX8_find 70 = .ok (.if_icmp .eq 88, 3) := by decide +kernel
theorem dX8_find_73 : decode cX8_find 73 = .ok (.aload_n 0, 1) := by decide +kernel
theorem dX8_find_74 : decode cX8_find 74 = .ok (.getfield 18, 3) := by decide +kernel
theorem dX8_find_77 : decode cX8_find 77 = .ok (.bipush 72, 2) := by decide +kernel
theorem dX8_find_79 : decode cX8_find 79 = .ok (.if_icmp .lt 6, 3) := by decide +kernel
theorem dX8_find_82 : decode cX8_find 82 = .ok (.goto 76, 3) := by decide +kernel
theorem dX8_find_85 : decode cX8_find 85 = .ok (.iload 6, 2) := by decide +kernel
theorem dX8_find_87 : decode cX8_find 87 = .ok (.ifCond .eq 20, 3) := by decide +kernel
theorem dX8_find_90 : decode cX8_find 90 = .ok (.aload_n 3, 1) := by decide +kernel
theorem dX8_find_91 : decode cX8_find 91 = .ok (.aload_n 1, 1) := by decide +kernel
theorem dX8_find_92 : decode cX8_find 92 = .ok (.invokevirtual 22, 3) := by decide +kernel
theorem dX8_find_95 : decode cX8_find 95 = .ok (.aload_n 3, 1) := by decide +kernel
theorem dX8_find_96 : decode cX8_find 96 = .ok (.getfield 28, 3) := by decide +kernel
theorem dX8_find_99 : decode cX8_find 99 = .ok (.getfield 53, 3) := by decide +kernel
theorem dX8_find_102 : decode cX8_find 102 = .ok (.iload 5, 2) := by decide +kernel
theorem dX8_find_104 : decode cX8_find 104 = .ok (.iload 7, 2) := by decide +kernel
theorem dX8_find_106 : decode cX8_find 106 = .ok (.iastore, 1) := by decide +kernel
theorem dX8_find_107 : decode cX8_find 107 = .ok (.iload 6, 2) := by decide +kernel
theorem dX8_find_109 : decode cX8_find 109 = .ok (.ifCond .eq 17, 3) := by decide +kernel
theorem dX8_find_112 : decode cX8_find 112 = .ok (.aload_n 2, 1) := by decide +kernel
theorem dX8_find_113 : decode cX8_find 113 = .ok (.aload_n 3, 1) := by decide +kernel
theorem dX8_find_114 : decode cX8_find 114 = .ok (.getfield 28, 3) := by decide +kernel
theorem dX8_find_117 : decode cX8_find 117 = .ok (.invokevirtual 32, 3) := by decide +kernel
theorem dX8_find_120 : decode cX8_find 120 = .ok (.ifCond .eq 38, 3) := by decide +kernel
theorem dX8_find_123 : decode cX8_find 123 = .ok (.goto 8, 3) := by decide +kernel
theorem dX8_find_126 : decode cX8_find 126 = .ok (.iload 4, 2) := by decide +kernel
theorem dX8_find_128 : decode cX8_find 128 = .ok (.ifCond .eq 30, 3) := by decide +kernel
theorem dX8_find_131 : decode cX8_find 131 = .ok (.aload_n 0, 1) := by decide +kernel
theorem dX8_find_132 : decode cX8_find 132 = .ok (.getfield 11, 3) := by decide +kernel
theorem dX8_find_135 : decode cX8_find 135 = .ok (.aload_n 0, 1) := by decide +kernel
theorem dX8_find_136 : decode cX8_find 136 = .ok (.getfield 18, 3) := by decide +kernel
theorem dX8_find_139 : decode cX8_find 139 = .ok (.bipush 10, 2) := by decide +kernel
theorem dX8_find_141 : decode cX8_find 141 = .ok (.iload 5, 2) := by decide +kernel
theorem dX8_find_143 : decode cX8_find 143 = .ok (.imul, 1) := by decide +kernel
theorem dX8_find_144 : decode cX8_find 144 = .ok (.iload 7, 2) := by decide +kernel
theorem dX8_find_146 : decode cX8_find 146 = .ok (.iadd, 1) := by decide +kernel
theorem dX8_find_147 : decode cX8_find 147 = .ok (.iastore, 1) := by decide +kernel
theorem dX8_find_148 : decode cX8_find 148 = .ok (.aload_n 0, 1) := by decide +kernel
theorem dX8_find_149 : decode cX8_find 149 = .ok (.dup, 1) := by decide +kernel
theorem dX8_find_150 : decode cX8_find 150 = .ok (.getfield 18, 3) := by decide +kernel
theorem dX8_find_153 : decode cX8_find 153 = .ok (.iconst 1, 1) := by decide +kernel
theorem dX8_find_154 : decode cX8_find 154 = .ok (.iadd, 1) := by decide +kernel
theorem dX8_find_155 : decode cX8_find 155 = .ok (.putfield 18, 3) := by decide +kernel
theorem dX8_find_158 : decode cX8_find 158 = .ok (.iinc 7 1, 3) := by decide +kernel
theorem dX8_find_161 : decode cX8_find 161 = .ok (.goto (-107), 3) := by decide +kernel
theorem dX8_find_164 : decode cX8_find 164 = .ok (.iinc 5 1, 3) := by decide +kernel
theorem dX8_find_167 : decode cX8_find 167 = .ok (.goto (-144), 3) := by decide +kernel
theorem dX8_find_170 : decode cX8_find 170 = .ok (.return_, 1) := by decide +kernel
theorem dX8_first_0 : decode cX8_first 0 = .ok (.aload_n 0, 1) := by decide +kernel
theorem dX8_first_1 : decode cX8_first 1 = .ok (.getfield 18, 3) := by decide +kernel
theorem dX8_first_4 : decode cX8_first 4 = .ok (.ifCond .le 12, 3) := by decide +kernel
theorem dX8_first_7 : decode cX8_first 7 = .ok (.aload_n 0, 1) := by decide +kernel
theorem dX8_first_8 : decode cX8_first 8 = .ok (.getfield 11, 3) := by decide +kernel
theorem dX8_first_11 : decode cX8_first 11 = .ok (.iconst 0, 1) := by decide +kernel
theorem dX8_first_12 : decode cX8_first 12 = .ok (.iaload, 1) := by decide +kernel
theorem dX8_first_13 : decode cX8_first 13 = .ok (.goto 4, 3) := by decide +kernel
theorem dX8_first_16 : decode cX8_first 16 = .ok (.iconst (-1), 1) := by decide +kernel
theorem dX8_first_17 : decode cX8_first 17 = .ok (.ireturn, 1) := by decide +kernel
theorem dX8_compare_0 : decode cX8_compare 0 = .ok (.iconst 0, 1) := by decide +kernel
theorem dX8_compare_1 : decode cX8_compare 1 = .ok (.istore_n 3, 1) := by decide +kernel
theorem dX8_compare_2 : decode cX8_compare 2 = .ok (.iload_n 3, 1) := by decide +kernel
theorem dX8_compare_3 : decode cX8_compare 3 = .ok (.aload_n 0, 1) := by decide +kernel
theorem dX8_compare_4 : decode cX8_compare 4 = .ok (.getfield 18, 3) := by decide +kernel
theorem dX8_compare_7 : decode cX8_compare 7 = .ok (.if_icmp .ge 55, 3) := by decide +kernel
theorem dX8_compare_10 : decode cX8_compare 10 = .ok (.aload_n 2, 1) := by decide +kernel
theorem dX8_compare_11 : decode cX8_compare 11 = .ok (.aload_n 1, 1) := by decide +kernel
theorem dX8_compare_12 : decode cX8_compare 12 = .ok (.invokevirtual 22, 3) := by decide +kernel
theorem dX8_compare_15 : decode cX8_compare 15 = .ok (.aload_n 2, 1) := by decide +kernel
theorem dX8_compare_16 : decode cX8_compare 16 = .ok (.getfield 28, 3) := by decide +kernel
theorem dX8_compare_19 : decode cX8_compare 19 = .ok (.getfield 53, 3) := by decide +kernel
theorem dX8_compare_22 : decode cX8_compare 22 = .ok (.aload_n 0, 1) := by decide +kernel
theorem dX8_compare_23 : decode cX8_compare 23 = .ok (.getfield 11, 3) := by decide +kernel
theorem dX8_compare_26 : decode cX8_compare 26 = .ok (.iload_n 3, 1) := by decide +kernel
theorem dX8_compare_27 : decode cX8_compare 27 = .ok (.iaload, 1) := by decide +kernel
theorem dX8_compare_28 : decode cX8_compare 28 = .ok (.bipush 10, 2) := by decide +kernel
theorem dX8_compare_30 : decode cX8_compare 30 = .ok (.idiv, 1) := by decide +kernel
theorem dX8_compare_31 : decode cX8_compare 31 = .ok (.aload_n 0, 1) := by decide +kernel
theorem dX8_compare_32 : decode cX8_compare 32 = .ok (.getfield 11, 3) := by decide +kernel
theorem dX8_compare_35 : decode cX8_compare 35 = .ok (.iload_n 3, 1) := by decide +kernel
theorem dX8_compare_36 : decode cX8_compare 36 = .ok (.iaload, 1) := by decide +kernel
theorem dX8_compare_37 : decode cX8_compare 37 = .ok (.bipush 10, 2) := by decide +kernel
theorem dX8_compare_39 : decode cX8_compare 39 = .ok (.irem, 1) := by decide +kernel
theorem dX8_compare_40 : decode cX8_compare 40 = .ok (.iastore, 1) := by decide +kernel
theorem dX8_compare_41 : decode cX8_compare 41 = .ok (.aload_n 2, 1) := by decide +kernel
theorem dX8_compare_42 : decode cX8_compare 42 = .ok (.bipush 10, 2) := by decide +kernel
theorem dX8_compare_44 : decode cX8_compare 44 = .ok (.invokevirtual 56, 3) := by decide +kernel
theorem dX8_compare_47 : decode cX8_compare 47 = .ok (.aload_n 0, 1) := by decide +kernel
theorem dX8_compare_48 : decode cX8_compare 48 = .ok (.iload_n 3, 1) := by decide +kernel
theorem dX8_compare_49 : decode cX8_compare 49 = .ok (.aload_n 2, 1) := by decide +kernel
theorem dX8_compare_50 : decode cX8_compare 50 = .ok (.getfield 28, 3) := by decide +kernel
theorem dX8_compare_53 : decode cX8_compare 53 = .ok (.invokevirtual 60, 3) := by decide +kernel
theorem dX8_compare_56 : decode cX8_compare 56 = .ok (.iinc 3 1, 3) := by decide +kernel
theorem dX8_compare_59 : decode cX8_compare 59 = .ok (.goto (-57), 3) := by decide +kernel
theorem dX8_compare_62 : decode cX8_compare 62 = .ok (.aload_n 0, 1) := by decide +kernel
theorem dX8_compare_63 : decode cX8_compare 63 = .ok (.iconst (-1), 1) := by decide +kernel
theorem dX8_compare_64 : decode cX8_compare 64 = .ok (.putfield 64, 3) := by decide +kernel
theorem dX8_compare_67 : decode cX8_compare 67 = .ok (.aload_n 0, 1) := by decide +kernel
theorem dX8_compare_68 : decode cX8_compare 68 = .ok (.iconst 0, 1) := by decide +kernel
theorem dX8_compare_69 : decode cX8_compare 69 = .ok (.putfield 67, 3) := by decide +kernel
theorem dX8_compare_72 : decode cX8_compare 72 = .ok (.iconst 0, 1) := by decide +kernel
theorem dX8_compare_73 : decode cX8_compare 73 = .ok (.istore_n 3, 1) := by decide +kernel
theorem dX8_compare_74 : decode cX8_compare 74 = .ok (.iload_n 3, 1) := by decide +kernel
theorem dX8_compare_75 : decode cX8_compare 75 = .ok (.aload_n 1, 1) := by decide +kernel
theorem dX8_compare_76 : decode cX8_compare 76 = .ok (.getfield 38, 3) := by decide +kernel
theorem dX8_compare_79 : decode cX8_compare 79 = .ok (.getfield 70, 3) := by decide +kernel
theorem dX8_compare_82 : decode cX8_compare 82 = .ok (.if_icmp .ge 36, 3) := by decide +kernel
theorem dX8_compare_85 : decode cX8_compare 85 = .ok (.aload_n 0, 1) := by decide +kernel
theorem dX8_compare_86 : decode cX8_compare 86 = .ok (.iload_n 3, 1) := by decide +kernel
theorem dX8_compare_87 : decode cX8_compare 87 = .ok (.invokevirtual 73, 3) := by decide +kernel
theorem dX8_compare_90 : decode cX8_compare 90 = .ok (.istore 4, 2) := by decide +kernel
theorem dX8_compare_92 : decode cX8_compare 92 = .ok (.iload 4, 2) := by decide +kernel
theorem dX8_compare_94 : decode cX8_compare 94 = .ok (.aload_n 0, 1) := by decide +kernel
theorem dX8_compare_95 : decode cX8_compare 95 = .ok (.getfield 67, 3) := by decide +kernel
theorem dX8_compare_98 : decode cX8_compare 98 = .ok (.if_icmp .le 14, 3) := by decide +kernel
theorem dX8_compare_101 : decode cX8_compare 101 = .ok (.aload_n 0, 1) := by decide +kernel
theorem dX8_compare_102 : decode cX8_compare 102 = .ok (.iload_n 3, 1) := by decide +kernel
theorem dX8_compare_103 : decode cX8_compare 103 = .ok (.putfield 64, 3) := by decide +kernel
theorem dX8_compare_106 : decode cX8_compare 106 = .ok (.aload_n 0, 1) := by decide +kernel
theorem dX8_compare_107 : decode cX8_compare 107 = .ok (.iload 4, 2) := by decide +kernel
theorem dX8_compare_109 : decode cX8_compare 109 = .ok (.putfield 67, 3) := by decide +kernel
theorem dX8_compare_112 : decode cX8_compare 112 = .ok (.iinc 3 1, 3) := by decide +kernel
theorem dX8_compare_115 : decode cX8_compare 115 = .ok (.goto (-41), 3) := by decide +kernel
theorem dX8_compare_118 : decode cX8_compare 118 = .ok (.return_, 1) := by decide +kernel
theorem dX8_keepOutcomes_0 : decode cX8_keepOutcomes 0 = .ok (.iconst 0, 1) := by decide +kernel
theorem dX8_keepOutcomes_1 : decode cX8_keepOutcomes 1 = .ok (.istore_n 3, 1) := by decide +kernel
theorem dX8_keepOutcomes_2 : decode cX8_keepOutcomes 2 = .ok (.iload_n 3, 1) := by decide +kernel
theorem dX8_keepOutcomes_3 : decode cX8_keepOutcomes 3 = .ok (.bipush 10, 2) := by decide +kernel
theorem dX8_keepOutcomes_5 : decode cX8_keepOutcomes 5 = .ok (.if_icmp .ge 37, 3) := by decide +kernel
theorem dX8_keepOutcomes_8 : decode cX8_keepOutcomes 8 = .ok (.aload_n 0, 1) := by decide +kernel
theorem dX8_keepOutcomes_9 : decode cX8_keepOutcomes 9 = .ok (.getfield 15, 3) := by decide +kernel
theorem dX8_keepOutcomes_12 : decode cX8_keepOutcomes 12 = .ok (.iload_n 1, 1) := by decide +kernel
theorem dX8_keepOutcomes_13 : decode cX8_keepOutcomes 13 = .ok (.bipush 10, 2) := by decide +kernel
theorem dX8_keepOutcomes_15 : decode cX8_keepOutcomes 15 = .ok (.imul, 1) := by decide +kernel
theorem dX8_keepOutcomes_16 : decode cX8_keepOutcomes 16 = .ok (.iload_n 3, 1) := by decide +kernel
theorem dX8_keepOutcomes_17 : decode cX8_keepOutcomes 17 = .ok (.iadd, 1) := by decide +kernel
theorem dX8_keepOutcomes_18 : decode cX8_keepOutcomes 18 = .ok (.aload_n 2, 1) := by decide +kernel
theorem dX8_keepOutcomes_19 : decode cX8_keepOutcomes 19 = .ok (.getfield 76, 3) := by decide +kernel
theorem dX8_keepOutcomes_22 : decode cX8_keepOutcomes 22 = .ok (.iload_n 3, 1) := by decide +kernel
theorem dX8_keepOutcomes_23 : decode cX8_keepOutcomes 23 = .ok (.iaload, 1) := by decide +kernel
theorem dX8_keepOutcomes_24 : decode cX8_keepOutcomes 24 = .ok (.iconst 4, 1) := by decide +kernel
theorem dX8_keepOutcomes_25 : decode cX8_keepOutcomes 25 = .ok (.ishl, 1) := by decide +kernel
theorem dX8_keepOutcomes_26 : decode cX8_keepOutcomes 26 = .ok (.aload_n 2, 1) := by decide +kernel
theorem dX8_keepOutcomes_27 : decode cX8_keepOutcomes 27 = .ok (.getfield 79, 3) := by decide +kernel
theorem dX8_keepOutcomes_30 : decode cX8_keepOutcomes 30 = .ok (.iload_n 3, 1) := by decide +kernel
theorem dX8_keepOutcomes_31 : decode cX8_keepOutcomes 31 = .ok (.iaload, 1) := by decide +kernel
theorem dX8_keepOutcomes_32 : decode cX8_keepOutcomes 32 = .ok (.iconst 1, 1) := by decide +kernel
theorem dX8_keepOutcomes_33 : decode cX8_keepOutcomes 33 = .ok (.iadd, 1) := by decide +kernel
theorem dX8_keepOutcomes_34 : decode cX8_keepOutcomes 34 = .ok (.ior, 1) := by decide +kernel
theorem dX8_keepOutcomes_35 : decode cX8_keepOutcomes 35 = .ok (.iastore, 1) := by decide +kernel
theorem dX8_keepOutcomes_36 : decode cX8_keepOutcomes 36 = .ok (.iinc 3 1, 3) := by decide +kernel
theorem dX8_keepOutcomes_39 : decode cX8_keepOutcomes 39 = .ok (.goto (-37), 3) := by decide +kernel
theorem dX8_keepOutcomes_42 : decode cX8_keepOutcomes 42 = .ok (.return_, 1) := by decide +kernel
theorem dX8_unlikeOutcomes_0 : decode cX8_unlikeOutcomes 0 = .ok (.iconst 0, 1) := by decide +kernel
theorem dX8_unlikeOutcomes_1 : decode cX8_unlikeOutcomes 1 = .ok (.istore_n 2, 1) := by decide +kernel
theorem dX8_unlikeOutcomes_2 : decode cX8_unlikeOutcomes 2 = .ok (.iconst 0, 1) := by decide +kernel
theorem dX8_unlikeOutcomes_3 : decode cX8_unlikeOutcomes 3 = .ok (.istore_n 3, 1) := by decide +kernel
theorem dX8_unlikeOutcomes_4 : decode cX8_unlikeOutcomes 4 = .ok (.iload_n 3, 1) := by decide +kernel
theorem dX8_unlikeOutcomes_5 : decode cX8_unlikeOutcomes 5 = .ok (.aload_n 0, 1) := by decide +kernel
theorem dX8_unlikeOutcomes_6 : decode cX8_unlikeOutcomes 6 = .ok (.getfield 18, 3) := by decide +kernel
theorem dX8_unlikeOutcomes_9 : decode cX8_unlikeOutcomes 9 = .ok (.if_icmp .ge 21, 3) := by decide +kernel
theorem dX8_unlikeOutcomes_12 : decode cX8_unlikeOutcomes 12 = .ok (.aload_n 0, 1) := by decide +kernel
theorem dX8_unlikeOutcomes_13 : decode cX8_unlikeOutcomes 13 = .ok (.iload_n 3, 1) := by decide +kernel
theorem dX8_unlikeOutcomes_14 : decode cX8_unlikeOutcomes 14 = .ok (.iload_n 1, 1) := by decide +kernel
theorem dX8_unlikeOutcomes_15 : decode cX8_unlikeOutcomes 15 = .ok (.invokevirtual 82, 3) := by decide +kernel
theorem dX8_unlikeOutcomes_18 : decode cX8_unlikeOutcomes 18 = .ok (.ifCond .eq 6, 3) := by decide +kernel
theorem dX8_unlikeOutcomes_21 : decode cX8_unlikeOutcomes 21 = .ok (.iinc 2 1, 3) := by decide +kernel
theorem dX8_unlikeOutcomes_24 : decode cX8_unlikeOutcomes 24 = .ok (.iinc 3 1, 3) := by decide +kernel
theorem dX8_unlikeOutcomes_27 : decode cX8_unlikeOutcomes 27 = .ok (.goto (-23), 3) := by decide +kernel
theorem dX8_unlikeOutcomes_30 : decode cX8_unlikeOutcomes 30 = .ok (.iload_n 2, 1) := by decide +kernel
theorem dX8_unlikeOutcomes_31 : decode cX8_unlikeOutcomes 31 = .ok (.ireturn, 1) := by decide +kernel
theorem dX8_isNewOutcome_0 : decode cX8_isNewOutcome 0 = .ok (.iconst 0, 1) := by decide +kernel
theorem dX8_isNewOutcome_1 : decode cX8_isNewOutcome 1 = .ok (.istore_n 3, 1) := by decide +kernel
theorem dX8_isNewOutcome_2 : decode cX8_isNewOutcome 2 = .ok (.iload_n 3, 1) := by decide +kernel
theorem dX8_isNewOutcome_3 : decode cX8_isNewOutcome 3 = .ok (.iload_n 1, 1) := by decide +kernel
theorem dX8_isNewOutcome_4 : decode cX8_isNewOutcome 4 = .ok (.if_icmp .ge 36, 3) := by decide +kernel
theorem dX8_isNewOutcome_7 : decode cX8_isNewOutcome 7 = .ok (.aload_n 0, 1) := by decide +kernel
theorem dX8_isNewOutcome_8 : decode cX8_isNewOutcome 8 = .ok (.getfield 15, 3) := by decide +kernel
theorem dX8_isNewOutcome_11 : decode cX8_isNewOutcome 11 = .ok (.iload_n 3, 1) := by decide +kernel
theorem dX8_isNewOutcome_12 : decode cX8_isNewOutcome 12 = .ok (.bipush 10, 2) := by decide +kernel
theorem dX8_isNewOutcome_14 : decode cX8_isNewOutcome 14 = .ok (.imul, 1) := by decide +kernel
theorem dX8_isNewOutcome_15 : decode cX8_isNewOutcome 15 = .ok (.iload_n 2, 1) := by decide +kernel
theorem dX8_isNewOutcome_16 : decode cX8_isNewOutcome 16 = .ok (.iadd, 1) := by decide +kernel
theorem dX8_isNewOutcome_17 : decode cX8_isNewOutcome 17 = .ok (.iaload, 1) := by decide +kernel
theorem dX8_isNewOutcome_18 : decode cX8_isNewOutcome 18 = .ok (.aload_n 0, 1) := by decide +kernel
theorem dX8_isNewOutcome_19 : decode cX8_isNewOutcome 19 = .ok (.getfield 15, 3) := by decide +kernel
theorem dX8_isNewOutcome_22 : decode cX8_isNewOutcome 22 = .ok (.iload_n 1, 1) := by decide +kernel
theorem dX8_isNewOutcome_23 : decode cX8_isNewOutcome 23 = .ok (.bipush 10, 2) := by decide +kernel
theorem dX8_isNewOutcome_25 : decode cX8_isNewOutcome 25 = .ok (.imul, 1) := by decide +kernel
theorem dX8_isNewOutcome_26 : decode cX8_isNewOutcome 26 = .ok (.iload_n 2, 1) := by decide +kernel
theorem dX8_isNewOutcome_27 : decode cX8_isNewOutcome 27 = .ok (.iadd, 1) := by decide +kernel
theorem dX8_isNewOutcome_28 : decode cX8_isNewOutcome 28 = .ok (.iaload, 1) := by decide +kernel
theorem dX8_isNewOutcome_29 : decode cX8_isNewOutcome 29 = .ok (.if_icmp .ne 5, 3) := by decide +kernel
theorem dX8_isNewOutcome_32 : decode cX8_isNewOutcome 32 = .ok (.iconst 0, 1) := by decide +kernel
theorem dX8_isNewOutcome_33 : decode cX8_isNewOutcome 33 = .ok (.ireturn, 1) := by decide +kernel
theorem dX8_isNewOutcome_34 : decode cX8_isNewOutcome 34 = .ok (.iinc 3 1, 3) := by decide +kernel
theorem dX8_isNewOutcome_37 : decode cX8_isNewOutcome 37 = .ok (.goto (-35), 3) := by decide +kernel
theorem dX8_isNewOutcome_40 : decode cX8_isNewOutcome 40 = .ok (.iconst 1, 1) := by decide +kernel
theorem dX8_isNewOutcome_41 : decode cX8_isNewOutcome 41 = .ok (.ireturn, 1) := by decide +kernel
