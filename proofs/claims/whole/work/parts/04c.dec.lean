theorem dX9_init_0 : decode cX9_init 0 = .ok (.aload_n 0, 1) := by decide +kernel
theorem dX9_init_1 : decode cX9_init 1 = .ok (.invokespecial 1, 3) := by decide +kernel
theorem dX9_init_4 : decode cX9_init 4 = .ok (.aload_n 0, 1) := by decide +kernel
theorem dX9_init_5 : decode cX9_init 5 = .ok (.sipush 700, 3) := by decide +kernel
theorem dX9_init_8 : decode cX9_init 8 = .ok (.newarray .byte, 2) := by decide +kernel
theorem dX9_init_10 : decode cX9_init 10 = .ok (.putfield 9, 3) := by decide +kernel
theorem dX9_init_13 : decode cX9_init 13 = .ok (.aload_n 0, 1) := by decide +kernel
theorem dX9_init_14 : decode cX9_init 14 = .ok (.iconst (-1), 1) := by decide +kernel
theorem dX9_init_15 : decode cX9_init 15 = .ok (.putfield 13, 3) := by decide +kernel
theorem dX9_init_18 : decode cX9_init 18 = .ok (.aload_n 0, 1) := by decide +kernel
theorem dX9_init_19 : decode cX9_init 19 = .ok (.iconst 3, 1) := by decide +kernel
theorem dX9_init_20 : decode cX9_init 20 = .ok (.newarray .int, 2) := by decide +kernel
theorem dX9_init_22 : decode cX9_init 22 = .ok (.putfield 17, 3) := by decide +kernel
theorem dX9_init_25 : decode cX9_init 25 = .ok (.aload_n 0, 1) := by decide +kernel
theorem dX9_init_26 : decode cX9_init 26 = .ok (.new 21, 3) := by decide +kernel
theorem dX9_init_29 : decode cX9_init 29 = .ok (.dup, 1) := by decide +kernel
theorem dX9_init_30 : decode cX9_init 30 = .ok (.invokespecial 23, 3) := by decide +kernel
theorem dX9_init_33 : decode cX9_init 33 = .ok (.putfield 24, 3) := by decide +kernel
theorem dX9_init_36 : decode cX9_init 36 = .ok (.aload_n 0, 1) := by decide +kernel
theorem dX9_init_37 : decode cX9_init 37 = .ok (.new 28, 3) := by decide +kernel
theorem dX9_init_40 : decode cX9_init 40 = .ok (.dup, 1) := by decide +kernel
theorem dX9_init_41 : decode cX9_init 41 = .ok (.invokespecial 30, 3) := by decide +kernel
theorem dX9_init_44 : decode cX9_init 44 = .ok (.putfield 31, 3) := by decide +kernel
theorem dX9_init_47 : decode cX9_init 47 = .ok (.aload_n 0, 1) := by decide +kernel
theorem dX9_init_48 : decode cX9_init 48 = .ok (.new 28, 3) := by decide +kernel
theorem dX9_init_51 : decode cX9_init 51 = .ok (.dup, 1) := by decide +kernel
theorem dX9_init_52 : decode cX9_init 52 = .ok (.invokespecial 30, 3) := by decide +kernel
theorem dX9_init_55 : decode cX9_init 55 = .ok (.putfield 35, 3) := by decide +kernel
theorem dX9_init_58 : decode cX9_init 58 = .ok (.aload_n 0, 1) := by decide +kernel
theorem dX9_init_59 : decode cX9_init 59 = .ok (.new 38, 3) := by decide +kernel
theorem dX9_init_62 : decode cX9_init 62 = .ok (.dup, 1) := by decide +kernel
theorem dX9_init_63 : decode cX9_init 63 = .ok (.invokespecial 40, 3) := by decide +kernel
theorem dX9_init_66 : decode cX9_init 66 = .ok (.putfield 41, 3) := by decide +kernel
theorem dX9_init_69 : decode cX9_init 69 = .ok (.aload_n 0, 1) := by decide +kernel
theorem dX9_init_70 : decode cX9_init 70 = .ok (.new 45, 3) := by decide +kernel
theorem dX9_init_73 : decode cX9_init 73 = .ok (.dup, 1) := by decide +kernel
theorem dX9_init_74 : decode cX9_init 74 = .ok (.invokespecial 47, 3) := by decide +kernel
theorem dX9_init_77 : decode cX9_init 77 = .ok (.putfield 48, 3) := by decide +kernel
theorem dX9_init_80 : decode cX9_init 80 = .ok (.aload_n 0, 1) := by decide +kernel
theorem dX9_init_81 : decode cX9_init 81 = .ok (.new 52, 3) := by decide +kernel
theorem dX9_init_84 : decode cX9_init 84 = .ok (.dup, 1) := by decide +kernel
theorem dX9_init_85 : decode cX9_init 85 = .ok (.invokespecial 54, 3) := by decide +kernel
theorem dX9_init_88 : decode cX9_init 88 = .ok (.putfield 55, 3) := by decide +kernel
theorem dX9_init_91 : decode cX9_init 91 = .ok (.aload_n 0, 1) := by decide +kernel
theorem dX9_init_92 : decode cX9_init 92 = .ok (.bipush 19, 2) := by decide +kernel
theorem dX9_init_94 : decode cX9_init 94 = .ok (.newarray .int, 2) := by decide +kernel
theorem dX9_init_96 : decode cX9_init 96 = .ok (.putfield 59, 3) := by decide +kernel
theorem dX9_init_99 : decode cX9_init 99 = .ok (.aload_n 0, 1) := by decide +kernel
theorem dX9_init_100 : decode cX9_init 100 = .ok (.new 45, 3) := by decide +kernel
theorem dX9_init_103 : decode cX9_init 103 = .ok (.dup, 1) := by decide +kernel
theorem dX9_init_104 : decode cX9_init 104 = .ok (.invokespecial 47, 3) := by decide +kernel
theorem dX9_init_107 : decode cX9_init 107 = .ok (.putfield 62, 3) := by decide +kernel
theorem dX9_init_110 : decode cX9_init 110 = .ok (.aload_n 0, 1) := by decide +kernel
theorem dX9_init_111 : decode cX9_init 111 = .ok (.new 52, 3) := by decide +kernel
theorem dX9_init_114 : decode cX9_init 114 = .ok (.dup, 1) := by decide +kernel
theorem dX9_init_115 : decode cX9_init 115 = .ok (.invokespecial 54, 3) := by decide +kernel
theorem dX9_init_118 : decode cX9_init 118 = .ok (.putfield 65, 3) := by decide +kernel
theorem dX9_init_121 : decode cX9_init 121 = .ok (.aload_n 0, 1) := by decide +kernel
theorem dX9_init_122 : decode cX9_init 122 = .ok (.new 68, 3) := by decide +kernel
theorem dX9_init_125 : decode cX9_init 125 = .ok (.dup, 1) := by decide +kernel
theorem dX9_init_126 : decode cX9_init 126 = .ok (.invokespecial 70, 3) := by decide +kernel
theorem dX9_init_129 : decode cX9_init 129 = .ok (.putfield 71, 3) := by decide +kernel
theorem dX9_init_132 : decode cX9_init 132 = .ok (.aload_n 0, 1) := by decide +kernel
theorem dX9_init_133 : decode cX9_init 133 = .ok (.new 75, 3) := by decide +kernel
theorem dX9_init_136 : decode cX9_init 136 = .ok (.dup, 1) := by decide +kernel
theorem dX9_init_137 : decode cX9_init 137 = .ok (.invokespecial 77, 3) := by decide +kernel
theorem dX9_init_140 : decode cX9_init 140 = .ok (.putfield 78, 3) := by decide +kernel
theorem dX9_init_143 : decode cX9_init 143 = .ok (.aload_n 0, 1) := by decide +kernel
theorem dX9_init_144 : decode cX9_init 144 = .ok (.new 82, 3) := by decide +kernel
theorem dX9_init_147 : decode cX9_init 147 = .ok (.dup, 1) := by decide +kernel
theorem dX9_init_148 : decode cX9_init 148 = .ok (.invokespecial 84, 3) := by decide +kernel
theorem dX9_init_151 : decode cX9_init 151 = .ok (.putfield 85, 3) := by decide +kernel
theorem dX9_init_154 : decode cX9_init 154 = .ok (.aload_n 0, 1) := by decide +kernel
theorem dX9_init_155 : decode cX9_init 155 = .ok (.getfield 41, 3) := by decide +kernel
theorem dX9_init_158 : decode cX9_init 158 = .ok (.aload_n 0, 1) := by decide +kernel
theorem dX9_init_159 : decode cX9_init 159 = .ok (.getfield 31, 3) := by decide +kernel
theorem dX9_init_162 : decode cX9_init 162 = .ok (.invokevirtual 89, 3) := by decide +kernel
theorem dX9_init_165 : decode cX9_init 165 = .ok (.return_, 1) := by decide +kernel
theorem dX9_feed_0 : decode cX9_feed 0 = .ok (.aload_n 0, 1) := by decide +kernel
theorem dX9_feed_1 : decode cX9_feed 1 = .ok (.getfield 93, 3) := by decide +kernel
theorem dX9_feed_4 : decode cX9_feed 4 = .ok (.bipush 20, 2) := by decide +kernel
theorem dX9_feed_6 : decode cX9_feed 6 = .ok (.iadd, 1) := by decide +kernel
theorem dX9_feed_7 : decode cX9_feed 7 = .ok (.sipush 700, 3) := by decide +kernel
theorem dX9_feed_10 : decode cX9_feed 10 = .ok (.if_icmp .le 5, 3) := by decide +kernel
theorem dX9_feed_13 : decode cX9_feed 13 = .ok (.iconst (-1), 1) := by decide +kernel
theorem dX9_feed_14 : decode cX9_feed 14 = .ok (.ireturn, 1) := by decide +kernel
theorem dX9_feed_15 : decode cX9_feed 15 = .ok (.aload_n 0, 1) := by decide +kernel
theorem dX9_feed_16 : decode cX9_feed 16 = .ok (.iload_n 1, 1) := by decide +kernel
theorem dX9_feed_17 : decode cX9_feed 17 = .ok (.invokevirtual 96, 3) := by decide +kernel
theorem dX9_feed_20 : decode cX9_feed 20 = .ok (.aload_n 0, 1) := by decide +kernel
theorem dX9_feed_21 : decode cX9_feed 21 = .ok (.iload_n 2, 1) := by decide +kernel
theorem dX9_feed_22 : decode cX9_feed 22 = .ok (.invokevirtual 96, 3) := by decide +kernel
theorem dX9_feed_25 : decode cX9_feed 25 = .ok (.aload_n 0, 1) := by decide +kernel
theorem dX9_feed_26 : decode cX9_feed 26 = .ok (.iload_n 3, 1) := by decide +kernel
theorem dX9_feed_27 : decode cX9_feed 27 = .ok (.invokevirtual 96, 3) := by decide +kernel
theorem dX9_feed_30 : decode cX9_feed 30 = .ok (.aload_n 0, 1) := by decide +kernel
theorem dX9_feed_31 : decode cX9_feed 31 = .ok (.iload 4, 2) := by decide +kernel
theorem dX9_feed_33 : decode cX9_feed 33 = .ok (.invokevirtual 96, 3) := by decide +kernel
theorem dX9_feed_36 : decode cX9_feed 36 = .ok (.aload_n 0, 1) := by decide +kernel
theorem dX9_feed_37 : decode cX9_feed 37 = .ok (.iload 5, 2) := by decide +kernel
theorem dX9_feed_39 : decode cX9_feed 39 = .ok (.invokevirtual 96, 3) := by decide +kernel
theorem dX9_feed_42 : decode cX9_feed 42 = .ok (.aload_n 0, 1) := by decide +kernel
theorem dX9_feed_43 : decode cX9_feed 43 = .ok (.getfield 93, 3) := by decide +kernel
theorem dX9_feed_46 : decode cX9_feed 46 = .ok (.ireturn, 1) := by decide +kernel
theorem dX9_city_0 : decode cX9_city 0 = .ok (.iload_n 1, 1) := by decide +kernel
theorem dX9_city_1 : decode cX9_city 1 = .ok (.ifCond .lt 11, 3) := by decide +kernel
theorem dX9_city_4 : decode cX9_city 4 = .ok (.iload_n 1, 1) := by decide +kernel
theorem dX9_city_5 : decode cX9_city 5 = .ok (.aload_n 0, 1) := by decide +kernel
theorem dX9_city_6 : decode cX9_city 6 = .ok (.getfield 93, 3) := by decide +kernel
theorem dX9_city_9 : decode cX9_city 9 = .ok (.if_icmp .le 11, 3) := by decide +kernel
theorem dX9_city_12 : decode cX9_city 12 = .ok (.new 100, 3) := by decide +kernel
theorem dX9_city_15 : decode cX9_city 15 = .ok (.dup, 1) := by decide +kernel
theorem dX9_city_16 : decode cX9_city 16 = .ok (.invokespecial 102, 3) := by decide +kernel
theorem dX9_city_19 : decode cX9_city 19 = .ok (.athrow, 1) := by decide +kernel
theorem dX9_city_20 : decode cX9_city 20 = .ok (.aload_n 0, 1) := by decide +kernel
theorem dX9_city_21 : decode cX9_city 21 = .ok (.iconst 0, 1) := by decide +kernel
theorem dX9_city_22 : decode cX9_city 22 = .ok (.putfield 93, 3) := by decide +kernel
theorem dX9_city_25 : decode cX9_city 25 = .ok (.aload_n 0, 1) := by decide +kernel
theorem dX9_city_26 : decode cX9_city 26 = .ok (.getfield 24, 3) := by decide +kernel
theorem dX9_city_29 : decode cX9_city 29 = .ok (.aload_n 0, 1) := by decide +kernel
theorem dX9_city_30 : decode cX9_city 30 = .ok (.getfield 9, 3) := by decide +kernel
theorem dX9_city_33 : decode cX9_city 33 = .ok (.iload_n 1, 1) := by decide +kernel
theorem dX9_city_34 : decode cX9_city 34 = .ok (.aload_n 0, 1) := by decide +kernel
theorem dX9_city_35 : decode cX9_city 35 = .ok (.getfield 35, 3) := by decide +kernel
theorem dX9_city_38 : decode cX9_city 38 = .ok (.invokevirtual 103, 3) := by decide +kernel
theorem dX9_city_41 : decode cX9_city 41 = .ok (.iconst 1, 1) := by decide +kernel
theorem dX9_city_42 : decode cX9_city 42 = .ok (.istore_n 2, 1) := by decide +kernel
theorem dX9_city_43 : decode cX9_city 43 = .ok (.iconst 0, 1) := by decide +kernel
theorem dX9_city_44 : decode cX9_city 44 = .ok (.istore_n 3, 1) := by decide +kernel
theorem dX9_city_45 : decode cX9_city 45 = .ok (.iload_n 3, 1) := by decide +kernel
theorem dX9_city_46 : decode cX9_city 46 = .ok (.sipush 700, 3) := by decide +kernel
theorem dX9_city_49 : decode cX9_city 49 = .ok (.if_icmp .gt 31, 3) := by decide +kernel
theorem dX9_city_52 : decode cX9_city 52 = .ok (.iload_n 2, 1) := by decide +kernel
theorem dX9_city_53 : decode cX9_city 53 = .ok (.ifCond .eq 27, 3) := by decide +kernel
theorem dX9_city_56 : decode cX9_city 56 = .ok (.aload_n 0, 1) := by decide +kernel
theorem dX9_city_57 : decode cX9_city 57 = .ok (.getfield 24, 3) := by decide +kernel
theorem dX9_city_60 : decode cX9_city 60 = .ok (.invokevirtual 106, 3) := by decide +kernel
theorem dX9_city_63 : decode cX9_city 63 = .ok (.ifCond .eq 17, 3) := by decide +kernel
theorem dX9_city_66 : decode cX9_city 66 = .ok (.aload_n 0, 1) := by decide +kernel
theorem dX9_city_67 : decode cX9_city 67 = .ok (.getfield 24, 3) := by decide +kernel
theorem dX9_city_70 : decode cX9_city 70 = .ok (.invokevirtual 110, 3) := by decide +kernel
theorem dX9_city_73 : decode cX9_city 73 = .ok (.istore_n 2, 1) := by decide +kernel
theorem dX9_city_74 : decode cX9_city 74 = .ok (.iinc 3 1, 3) := by decide +kernel
theorem dX9_city_77 : decode cX9_city 77 = .ok (.goto (-32), 3) := by decide +kernel
theorem dX9_city_80 : decode cX9_city 80 = .ok (.aload_n 0, 1) := by decide +kernel
theorem dX9_city_81 : decode cX9_city 81 = .ok (.aload_n 0, 1) := by decide +kernel
theorem dX9_city_82 : decode cX9_city 82 = .ok (.getfield 24, 3) := by decide +kernel
theorem dX9_city_85 : decode cX9_city 85 = .ok (.getfield 113, 3) := by decide +kernel
theorem dX9_city_88 : decode cX9_city 88 = .ok (.putfield 13, 3) := by decide +kernel
theorem dX9_city_91 : decode cX9_city 91 = .ok (.aload_n 0, 1) := by decide +kernel
theorem dX9_city_92 : decode cX9_city 92 = .ok (.getfield 24, 3) := by decide +kernel
theorem dX9_city_95 : decode cX9_city 95 = .ok (.getfield 116, 3) := by decide +kernel
theorem dX9_city_98 : decode cX9_city 98 = .ok (.ifCond .eq 16, 3) := by decide +kernel
theorem dX9_city_101 : decode cX9_city 101 = .ok (.aload_n 0, 1) := by decide +kernel
theorem dX9_city_102 : decode cX9_city 102 = .ok (.iconst 0, 1) := by decide +kernel
theorem dX9_city_103 : decode cX9_city 103 = .ok (.aload_n 0, 1) := by decide +kernel
theorem dX9_city_104 : decode cX9_city 104 = .ok (.getfield 24, 3) := by decide +kernel
theorem dX9_city_107 : decode cX9_city 107 = .ok (.getfield 116, 3) := by decide +kernel
theorem dX9_city_110 : decode cX9_city 110 = .ok (.invokevirtual 119, 3) := by decide +kernel
theorem dX9_city_113 : decode cX9_city 113 = .ok (.ireturn, 1) := by decide +kernel
theorem dX9_city_114 : decode cX9_city 114 = .ok (.aload_n 0, 1) := by decide +kernel
theorem dX9_city_115 : decode cX9_city 115 = .ok (.getfield 31, 3) := by decide +kernel
theorem dX9_city_118 : decode cX9_city 118 = .ok (.astore_n 3, 1) := by decide +kernel
theorem dX9_city_119 : decode cX9_city 119 = .ok (.aload_n 0, 1) := by decide +kernel
theorem dX9_city_120 : decode cX9_city 120 = .ok (.aload_n 0, 1) := by decide +kernel
theorem dX9_city_121 : decode cX9_city 121 = .ok (.getfield 35, 3) := by decide +kernel
theorem dX9_city_124 : decode cX9_city 124 = .ok (.putfield 31, 3) := by decide +kernel
theorem dX9_city_127 : decode cX9_city 127 = .ok (.aload_n 0, 1) := by decide +kernel
theorem dX9_city_128 : decode cX9_city 128 = .ok (.aload_n 3, 1) := by decide +kernel
theorem dX9_city_129 : decode cX9_city 129 = .ok (.putfield 35, 3) := by decide +kernel
theorem dX9_city_132 : decode cX9_city 132 = .ok (.aload_n 0, 1) := by decide +kernel
theorem dX9_city_133 : decode cX9_city 133 = .ok (.getfield 41, 3) := by decide +kernel
theorem dX9_city_136 : decode cX9_city 136 = .ok (.aload_n 0, 1) := by decide +kernel
theorem dX9_city_137 : decode cX9_city 137 = .ok (.getfield 31, 3) := by decide +kernel
theorem dX9_city_140 : decode cX9_city 140 = .ok (.invokevirtual 89, 3) := by decide +kernel
theorem dX9_city_143 : decode cX9_city 143 = .ok (.aload_n 0, 1) := by decide +kernel
theorem dX9_city_144 : decode cX9_city 144 = .ok (.getfield 48, 3) := by decide +kernel
theorem dX9_city_147 : decode cX9_city 147 = .ok (.invokevirtual 123, 3) := by decide +kernel
theorem dX9_city_150 : decode cX9_city 150 = .ok (.aload_n 0, 1) := by decide +kernel
theorem dX9_city_151 : decode cX9_city 151 = .ok (.getfield 55, 3) := by decide +kernel
theorem dX9_city_154 : decode cX9_city 154 = .ok (.invokevirtual 126, 3) := by decide +kernel
theorem dX9_city_157 : decode cX9_city 157 = .ok (.aload_n 0, 1) := by decide +kernel
theorem dX9_city_158 : decode cX9_city 158 = .ok (.iconst 0, 1) := by decide +kernel
theorem dX9_city_159 : decode cX9_city 159 = .ok (.putfield 127, 3) := by decide +kernel
theorem dX9_city_162 : decode cX9_city 162 = .ok (.iconst 0, 1) := by decide +kernel
theorem dX9_city_163 : decode cX9_city 163 = .ok (.ireturn, 1) := by decide +kernel
theorem dX9_fault_0 : decode cX9_fault 0 = .ok (.aload_n 0, 1) := by decide +kernel
theorem dX9_fault_1 : decode cX9_fault 1 = .ok (.getfield 13, 3) := by decide +kernel
theorem dX9_fault_4 : decode cX9_fault 4 = .ok (.ireturn, 1) := by decide +kernel
theorem dX9_count_0 : decode cX9_count 0 = .ok (.iload_n 1, 1) := by decide +kernel
theorem dX9_count_1 : decode cX9_count 1 = .ok (.bipush 13, 2) := by decide +kernel
theorem dX9_count_3 : decode cX9_count 3 = .ok (.invokestatic 131, 3) := by decide +kernel
theorem dX9_count_6 : decode cX9_count 6 = .ok (.iload_n 1, 1) := by decide +kernel
theorem dX9_count_7 : decode cX9_count 7 = .ok (.tableswitch 146 0 10 #[57, 65, 73, 81, 89, 97, 105, 117, 125, 133, 141], 57) := by decide +kernel
theorem dX9_count_64 : decode cX9_count 64 = .ok (.aload_n 0, 1) := by decide +kernel
theorem dX9_count_65 : decode cX9_count 65 = .ok (.getfield 31, 3) := by decide +kernel
theorem dX9_count_68 : decode cX9_count 68 = .ok (.getfield 135, 3) := by decide +kernel
theorem dX9_count_71 : decode cX9_count 71 = .ok (.ireturn, 1) := by decide +kernel
theorem dX9_count_72 : decode cX9_count 72 = .ok (.aload_n 0, 1) := by decide +kernel
theorem dX9_count_73 : decode cX9_count 73 = .ok (.getfield 31, 3) := by decide +kernel
theorem dX9_count_76 : decode cX9_count 76 = .ok (.getfield 138, 3) := by decide +kernel
theorem dX9_count_79 : decode cX9_count 79 = .ok (.ireturn, 1) := by decide +kernel
theorem dX9_count_80 : decode cX9_count 80 = .ok (.aload_n 0, 1) := by decide +kernel
theorem dX9_count_81 : decode cX9_count 81 = .ok (.getfield 31, 3) := by decide +kernel
theorem dX9_count_84 : decode cX9_count 84 = .ok (.getfield 141, 3) := by decide +kernel
theorem dX9_count_87 : decode cX9_count 87 = .ok (.ireturn, 1) := by decide +kernel
theorem dX9_count_88 : decode cX9_count 88 = .ok (.aload_n 0, 1) := by decide +kernel
theorem dX9_count_89 : decode cX9_count 89 = .ok (.getfield 31, 3) := by decide +kernel
theorem dX9_count_92 : decode cX9_count 92 = .ok (.getfield 144, 3) := by decide +kernel
theorem dX9_count_95 : decode cX9_count 95 = .ok (.ireturn, 1) := by decide +kernel
theorem dX9_count_96 : decode cX9_count 96 = .ok (.aload_n 0, 1) := by decide +kernel
theorem dX9_count_97 : decode cX9_count 97 = .ok (.getfield 41, 3) := by decide +kernel
theorem dX9_count_100 : decode cX9_count 100 = .ok (.getfield 147, 3) := by decide +kernel
theorem dX9_count_103 : decode cX9_count 103 = .ok (.ireturn, 1) := by decide +kernel
theorem dX9_count_104 : decode cX9_count 104 = .ok (.aload_n 0, 1) := by decide +kernel
theorem dX9_count_105 : decode cX9_count 105 = .ok (.getfield 41, 3) := by decide +kernel
theorem dX9_count_108 : decode cX9_count 108 = .ok (.invokevirtual 150, 3) := by decide +kernel
theorem dX9_count_111 : decode cX9_count 111 = .ok (.ireturn, 1) := by decide +kernel
theorem dX9_count_112 : decode cX9_count 112 = .ok (.aload_n 0, 1) := by decide +kernel
theorem dX9_count_113 : decode cX9_count 113 = .ok (.getfield 85, 3) := by decide +kernel
theorem dX9_count_116 : decode cX9_count 116 = .ok (.aload_n 0, 1) := by decide +kernel
theorem dX9_count_117 : decode cX9_count 117 = .ok (.getfield 41, 3) := by decide +kernel
theorem dX9_count_120 : decode cX9_count 120 = .ok (.invokevirtual 154, 3) := by decide +kernel
theorem dX9_count_123 : decode cX9_count 123 = .ok (.ireturn, 1) := by decide +kernel
theorem dX9_count_124 : decode cX9_count 124 = .ok (.aload_n 0, 1) := by decide +kernel
theorem dX9_count_125 : decode cX9_count 125 = .ok (.getfield 41, 3) := by decide +kernel
theorem dX9_count_128 : decode cX9_count 128 = .ok (.invokevirtual 158, 3) := by decide +kernel
theorem dX9_count_131 : decode cX9_count 131 = .ok (.ireturn, 1) := by decide +kernel
theorem dX9_count_132 : decode cX9_count 132 = .ok (.aload_n 0, 1) := by decide +kernel
theorem dX9_count_133 : decode cX9_count 133 = .ok (.getfield 48, 3) := by decide +kernel
theorem dX9_count_136 : decode cX9_count 136 = .ok (.getfield 161, 3) := by decide +kernel
theorem dX9_count_139 : decode cX9_count 139 = .ok (.ireturn, 1) := by decide +kernel
theorem dX9_count_140 : decode cX9_count 140 = .ok (.aload_n 0, 1) := by decide +kernel
theorem dX9_count_141 : decode cX9_count 141 = .ok (.getfield 55, 3) := by decide +kernel
theorem dX9_count_144 : decode cX9_count 144 = .ok (.getfield 164, 3) := by decide +kernel
theorem dX9_count_147 : decode cX9_count 147 = .ok (.ireturn, 1) := by decide +kernel
theorem dX9_count_148 : decode cX9_count 148 = .ok (.aload_n 0, 1) := by decide +kernel
theorem dX9_count_149 : decode cX9_count 149 = .ok (.getfield 93, 3) := by decide +kernel
theorem dX9_count_152 : decode cX9_count 152 = .ok (.ireturn, 1) := by decide +kernel
theorem dX9_count_153 : decode cX9_count 153 = .ok (.aload_n 0, 1) := by decide +kernel
theorem dX9_count_154 : decode cX9_count 154 = .ok (.getfield 17, 3) := by decide +kernel
theorem dX9_count_157 : decode cX9_count 157 = .ok (.iload_n 1, 1) := by decide +kernel
theorem dX9_count_158 : decode cX9_count 158 = .ok (.bipush 11, 2) := by decide +kernel
theorem dX9_count_160 : decode cX9_count 160 = .ok (.isub, 1) := by decide +kernel
theorem dX9_count_161 : decode cX9_count 161 = .ok (.iaload, 1) := by decide +kernel
theorem dX9_count_162 : decode cX9_count 162 = .ok (.ireturn, 1) := by decide +kernel
theorem dX9_person_0 : decode cX9_person 0 = .ok (.aload_n 0, 1) := by decide +kernel
theorem dX9_person_1 : decode cX9_person 1 = .ok (.iload_n 1, 1) := by decide +kernel
theorem dX9_person_2 : decode cX9_person 2 = .ok (.invokevirtual 165, 3) := by decide +kernel
theorem dX9_person_5 : decode cX9_person 5 = .ok (.iload_n 2, 1) := by decide +kernel
theorem dX9_person_6 : decode cX9_person 6 = .ok (.bipush 8, 2) := by decide +kernel
theorem dX9_person_8 : decode cX9_person 8 = .ok (.invokestatic 131, 3) := by decide +kernel
theorem dX9_person_11 : decode cX9_person 11 = .ok (.iload_n 2, 1) := by decide +kernel
theorem dX9_person_12 : decode cX9_person 12 = .ok (.tableswitch 130 0 7 #[48, 58, 74, 84, 94, 103, 112, 121], 48) := by decide +kernel
theorem dX9_person_60 : decode cX9_person 60 = .ok (.aload_n 0, 1) := by decide +kernel
theorem dX9_person_61 : decode cX9_person 61 = .ok (.getfield 31, 3) := by decide +kernel
theorem dX9_person_64 : decode cX9_person 64 = .ok (.getfield 168, 3) := by decide +kernel
theorem dX9_person_67 : decode cX9_person 67 = .ok (.iload_n 1, 1) := by decide +kernel
theorem dX9_person_68 : decode cX9_person 68 = .ok (.iaload, 1) := by decide +kernel
theorem dX9_person_69 : decode cX9_person 69 = .ok (.ireturn, 1) := by decide +kernel
theorem dX9_person_70 : decode cX9_person 70 = .ok (.aload_n 0, 1) := by decide +kernel
theorem dX9_person_71 : decode cX9_person 71 = .ok (.getfield 41, 3) := by decide +kernel
theorem dX9_person_74 : decode cX9_person 74 = .ok (.iload_n 1, 1) := by decide +kernel
theorem dX9_person_75 : decode cX9_person 75 = .ok (.aload_n 0, 1) := by decide +kernel
theorem dX9_person_76 : decode cX9_person 76 = .ok (.getfield 41, 3) := by decide +kernel
theorem dX9_person_79 : decode cX9_person 79 = .ok (.getfield 147, 3) := by decide +kernel
theorem dX9_person_82 : decode cX9_person 82 = .ok (.invokevirtual 171, 3) := by decide +kernel
theorem dX9_person_85 : decode cX9_person 85 = .ok (.ireturn, 1) := by decide +kernel
theorem dX9_person_86 : decode cX9_person 86 = .ok (.aload_n 0, 1) := by decide +kernel
theorem dX9_person_87 : decode cX9_person 87 = .ok (.getfield 41, 3) := by decide +kernel
theorem dX9_person_90 : decode cX9_person 90 = .ok (.getfield 174, 3) := by decide +kernel
theorem dX9_person_93 : decode cX9_person 93 = .ok (.iload_n 1, 1) := by decide +kernel
theorem dX9_person_94 : decode cX9_person 94 = .ok (.iaload, 1) := by decide +kernel
theorem dX9_person_95 : decode cX9_person 95 = .ok (.ireturn, 1) := by decide +kernel
theorem dX9_person_96 : decode cX9_person 96 = .ok (.aload_n 0, 1) := by decide +kernel
theorem dX9_person_97 : decode cX9_person 97 = .ok (.getfield 31, 3) := by decide +kernel
theorem dX9_person_100 : decode cX9_person 100 = .ok (.getfield 177, 3) := by decide +kernel
theorem dX9_person_103 : decode cX9_person 103 = .ok (.iload_n 1, 1) := by decide +kernel
theorem dX9_person_104 : decode cX9_person 104 = .ok (.iaload, 1) := by decide +kernel
theorem dX9_person_105 : decode cX9_person 105 = .ok (.ireturn, 1) := by decide +kernel
theorem dX9_person_106 : decode cX9_person 106 = .ok (.aload_n 0, 1) := by decide +kernel
theorem dX9_person_107 : decode cX9_person 107 = .ok (.getfield 41, 3) := by decide +kernel
theorem dX9_person_110 : decode cX9_person 110 = .ok (.iload_n 1, 1) := by decide +kernel
theorem dX9_person_111 : decode cX9_person 111 = .ok (.invokevirtual 180, 3) := by decide +kernel
theorem dX9_person_114 : decode cX9_person 114 = .ok (.ireturn, 1) := by decide +kernel
theorem dX9_person_115 : decode cX9_person 115 = .ok (.aload_n 0, 1) := by decide +kernel
theorem dX9_person_116 : decode cX9_person 116 = .ok (.getfield 41, 3) := by decide +kernel
theorem dX9_person_119 : decode cX9_person 119 = .ok (.iload_n 1, 1) := by decide +kernel
theorem dX9_person_120 : decode cX9_person 120 = .ok (.invokevirtual 184, 3) := by decide +kernel
theorem dX9_person_123 : decode cX9_person 123 = .ok (.ireturn, 1) := by decide +kernel
theorem dX9_person_124 : decode cX9_person 124 = .ok (.aload_n 0, 1) := by decide +kernel
theorem dX9_person_125 : decode cX9_person 125 = .ok (.getfield 41, 3) := by decide +kernel
theorem dX9_person_128 : decode cX9_person 128 = .ok (.iload_n 1, 1) := by decide +kernel
theorem dX9_person_129 : decode cX9_person 129 = .ok (.invokevirtual 187, 3) := by decide +kernel
theorem dX9_person_132 : decode cX9_person 132 = .ok (.ireturn, 1) := by decide +kernel
theorem dX9_person_133 : decode cX9_person 133 = .ok (.aload_n 0, 1) := by decide +kernel
theorem dX9_person_134 : decode cX9_person 134 = .ok (.getfield 41, 3) := by decide +kernel
theorem dX9_person_137 : decode cX9_person 137 = .ok (.iload_n 1, 1) := by decide +kernel
theorem dX9_person_138 : decode cX9_person 138 = .ok (.invokevirtual 190, 3) := by decide +kernel
theorem dX9_person_141 : decode cX9_person 141 = .ok (.ireturn, 1) := by decide +kernel
theorem dX9_person_142 : decode cX9_person 142 = .ok (.aload_n 0, 1) := by decide +kernel
theorem dX9_person_143 : decode cX9_person 143 = .ok (.getfield 41, 3) := by decide +kernel
theorem dX9_person_146 : decode cX9_person 146 = .ok (.iload_n 1, 1) := by decide +kernel
theorem dX9_person_147 : decode cX9_person 147 = .ok (.invokevirtual 193, 3) := by decide +kernel
theorem dX9_person_150 : decode cX9_person 150 = .ok (.ireturn, 1) := by decide +kernel
theorem dX9_thing_0 : decode cX9_thing 0 = .ok (.aload_n 0, 1) := by decide +kernel
theorem dX9_thing_1 : decode cX9_thing 1 = .ok (.iload_n 1, 1) := by decide +kernel
theorem dX9_thing_2 : decode cX9_thing 2 = .ok (.invokevirtual 196, 3) := by decide +kernel
theorem dX9_thing_5 : decode cX9_thing 5 = .ok (.iload_n 2, 1) := by decide +kernel
theorem dX9_thing_6 : decode cX9_thing 6 = .ok (.iconst 5, 1) := by decide +kernel
theorem dX9_thing_7 : decode cX9_thing 7 = .ok (.invokestatic 131, 3) := by decide +kernel
theorem dX9_thing_10 : decode cX9_thing 10 = .ok (.iload_n 2, 1) := by decide +kernel
theorem dX9_thing_11 : decode cX9_thing 11 = .ok (.tableswitch 83 0 4 #[33, 43, 53, 63, 73], 33) := by decide +kernel
theorem dX9_thing_44 : decode cX9_thing 44 = .ok (.aload_n 0, 1) := by decide +kernel
theorem dX9_thing_45 : decode cX9_thing 45 = .ok (.getfield 31, 3) := by decide +kernel
theorem dX9_thing_48 : decode cX9_thing 48 = .ok (.getfield 199, 3) := by decide +kernel
theorem dX9_thing_51 : decode cX9_thing 51 = .ok (.iload_n 1, 1) := by decide +kernel
theorem dX9_thing_52 : decode cX9_thing 52 = .ok (.iaload, 1) := by decide +kernel
theorem dX9_thing_53 : decode cX9_thing 53 = .ok (.ireturn, 1) := by decide +kernel
theorem dX9_thing_54 : decode cX9_thing 54 = .ok (.aload_n 0, 1) := by decide +kernel
theorem dX9_thing_55 : decode cX9_thing 55 = .ok (.getfield 41, 3) := by decide +kernel
theorem dX9_thing_58 : decode cX9_thing 58 = .ok (.getfield 202, 3) := by decide +kernel
theorem dX9_thing_61 : decode cX9_thing 61 = .ok (.iload_n 1, 1) := by decide +kernel
theorem dX9_thing_62 : decode cX9_thing 62 = .ok (.iaload, 1) := by decide +kernel
theorem dX9_thing_63 : decode cX9_thing 63 = .ok (.ireturn, 1) := by decide +kernel
theorem dX9_thing_64 : decode cX9_thing 64 = .ok (.aload_n 0, 1) := by decide +kernel
theorem dX9_thing_65 : decode cX9_thing 65 = .ok (.getfield 41, 3) := by decide +kernel
theorem dX9_thing_68 : decode cX9_thing 68 = .ok (.getfield 205, 3) := by decide +kernel
theorem dX9_thing_71 : decode cX9_thing 71 = .ok (.iload_n 1, 1) := by decide +kernel
theorem dX9_thing_72 : decode cX9_thing 72 = .ok (.iaload, 1) := by decide +kernel
theorem dX9_thing_73 : decode cX9_thing 73 = .ok (.ireturn, 1) := by decide +kernel
theorem dX9_thing_74 : decode cX9_thing 74 = .ok (.aload_n 0, 1) := by decide +kernel
theorem dX9_thing_75 : decode cX9_thing 75 = .ok (.getfield 41, 3) := by decide +kernel
theorem dX9_thing_78 : decode cX9_thing 78 = .ok (.getfield 208, 3) := by decide +kernel
theorem dX9_thing_81 : decode cX9_thing 81 = .ok (.iload_n 1, 1) := by decide +kernel
theorem dX9_thing_82 : decode cX9_thing 82 = .ok (.iaload, 1) := by decide +kernel
theorem dX9_thing_83 : decode cX9_thing 83 = .ok (.ireturn, 1) := by decide +kernel
theorem dX9_thing_84 : decode cX9_thing 84 = .ok (.aload_n 0, 1) := by decide +kernel
theorem dX9_thing_85 : decode cX9_thing 85 = .ok (.getfield 41, 3) := by decide +kernel
theorem dX9_thing_88 : decode cX9_thing 88 = .ok (.getfield 211, 3) := by decide +kernel
theorem dX9_thing_91 : decode cX9_thing 91 = .ok (.iload_n 1, 1) := by decide +kernel
theorem dX9_thing_92 : decode cX9_thing 92 = .ok (.iaload, 1) := by decide +kernel
theorem dX9_thing_93 : decode cX9_thing 93 = .ok (.ireturn, 1) := by decide +kernel
theorem dX9_thing_94 : decode cX9_thing 94 = .ok (.aload_n 0, 1) := by decide +kernel
theorem dX9_thing_95 : decode cX9_thing 95 = .ok (.getfield 41, 3) := by decide +kernel
theorem dX9_thing_98 : decode cX9_thing 98 = .ok (.iload_n 1, 1) := by decide +kernel
theorem dX9_thing_99 : decode cX9_thing 99 = .ok (.invokevirtual 214, 3) := by decide +kernel
theorem dX9_thing_102 : decode cX9_thing 102 = .ok (.ireturn, 1) := by decide +kernel
theorem dX9_days_0 : decode cX9_days 0 = .ok (.iload_n 1, 1) := by decide +kernel
theorem dX9_days_1 : decode cX9_days 1 = .ok (.iconst 1, 1) := by decide +kernel
theorem dX9_days_2 : decode cX9_days 2 = .ok (.if_icmp .lt 24, 3) := by decide +kernel
theorem dX9_days_5 : decode cX9_days 5 = .ok (.iload_n 1, 1) := by decide +kernel
theorem dX9_days_6 : decode cX9_days 6 = .ok (.bipush 20, 2) := by decide +kernel
theorem dX9_days_8 : decode cX9_days 8 = .ok (.if_icmp .gt 18, 3) := by decide +kernel
theorem dX9_days_11 : decode cX9_days 11 = .ok (.aload_n 0, 1) := by decide +kernel
theorem dX9_days_12 : decode cX9_days 12 = .ok (.getfield 41, 3) := by decide +kernel
theorem dX9_days_15 : decode cX9_days 15 = .ok (.getfield 147, 3) := by decide +kernel
theorem dX9_days_18 : decode cX9_days 18 = .ok (.iload_n 1, 1) := by decide +kernel
theorem dX9_days_19 : decode cX9_days 19 = .ok (.iadd, 1) := by decide +kernel
theorem dX9_days_20 : decode cX9_days 20 = .ok (.sipush 9999, 3) := by decide +kernel
theorem dX9_days_23 : decode cX9_days 23 = .ok (.if_icmp .le 10, 3) := by decide +kernel
theorem dX9_days_26 : decode cX9_days 26 = .ok (.aload_n 0, 1) := by decide +kernel
theorem dX9_days_27 : decode cX9_days 27 = .ok (.iconst 1, 1) := by decide +kernel
theorem dX9_days_28 : decode cX9_days 28 = .ok (.iconst (-1), 1) := by decide +kernel
theorem dX9_days_29 : decode cX9_days 29 = .ok (.invokevirtual 119, 3) := by decide +kernel
theorem dX9_days_32 : decode cX9_days 32 = .ok (.ireturn, 1) := by decide +kernel
theorem dX9_days_33 : decode cX9_days 33 = .ok (.aload_n 0, 1) := by decide +kernel
theorem dX9_days_34 : decode cX9_days 34 = .ok (.getfield 48, 3) := by decide +kernel
theorem dX9_days_37 : decode cX9_days 37 = .ok (.aload_n 0, 1) := by decide +kernel
theorem dX9_days_38 : decode cX9_days 38 = .ok (.getfield 41, 3) := by decide +kernel
theorem dX9_days_41 : decode cX9_days 41 = .ok (.invokevirtual 217, 3) := by decide +kernel
theorem dX9_days_44 : decode cX9_days 44 = .ok (.iconst 0, 1) := by decide +kernel
theorem dX9_days_45 : decode cX9_days 45 = .ok (.istore_n 2, 1) := by decide +kernel
theorem dX9_days_46 : decode cX9_days 46 = .ok (.iload_n 2, 1) := by decide +kernel
theorem dX9_days_47 : decode cX9_days 47 = .ok (.iload_n 1, 1) := by decide +kernel
theorem dX9_days_48 : decode cX9_days 48 = .ok (.if_icmp .ge 17, 3) := by decide +kernel
theorem dX9_days_51 : decode cX9_days 51 = .ok (.aload_n 0, 1) := by decide +kernel
theorem dX9_days_52 : decode cX9_days 52 = .ok (.getfield 41, 3) := by decide +kernel
theorem dX9_days_55 : decode cX9_days 55 = .ok (.iconst 0, 1) := by decide +kernel
theorem dX9_days_56 : decode cX9_days 56 = .ok (.invokevirtual 221, 3) := by decide +kernel
theorem dX9_days_59 : decode cX9_days 59 = .ok (.iinc 2 1, 3) := by decide +kernel
theorem dX9_days_62 : decode cX9_days 62 = .ok (.goto (-16), 3) := by decide +kernel
theorem dX9_days_65 : decode cX9_days 65 = .ok (.aload_n 0, 1) := by decide +kernel
theorem dX9_days_66 : decode cX9_days 66 = .ok (.getfield 41, 3) := by decide +kernel
theorem dX9_days_69 : decode cX9_days 69 = .ok (.getfield 147, 3) := by decide +kernel
theorem dX9_days_72 : decode cX9_days 72 = .ok (.ireturn, 1) := by decide +kernel
theorem dX9_steal_0 : decode cX9_steal 0 = .ok (.aload_n 0, 1) := by decide +kernel
theorem dX9_steal_1 : decode cX9_steal 1 = .ok (.iload_n 1, 1) := by decide +kernel
theorem dX9_steal_2 : decode cX9_steal 2 = .ok (.invokevirtual 165, 3) := by decide +kernel
theorem dX9_steal_5 : decode cX9_steal 5 = .ok (.aload_n 0, 1) := by decide +kernel
theorem dX9_steal_6 : decode cX9_steal 6 = .ok (.iload_n 2, 1) := by decide +kernel
theorem dX9_steal_7 : decode cX9_steal 7 = .ok (.invokevirtual 196, 3) := by decide +kernel
theorem dX9_steal_10 : decode cX9_steal 10 = .ok (.aload_n 0, 1) := by decide +kernel
theorem dX9_steal_11 : decode cX9_steal 11 = .ok (.getfield 41, 3) := by decide +kernel
theorem dX9_steal_14 : decode cX9_steal 14 = .ok (.iload_n 1, 1) := by decide +kernel
theorem dX9_steal_15 : decode cX9_steal 15 = .ok (.iload_n 2, 1) := by decide +kernel
theorem dX9_steal_16 : decode cX9_steal 16 = .ok (.invokevirtual 225, 3) := by decide +kernel
theorem dX9_steal_19 : decode cX9_steal 19 = .ok (.ifCond .ne 11, 3) := by decide +kernel
theorem dX9_steal_22 : decode cX9_steal 22 = .ok (.aload_n 0, 1) := by decide +kernel
theorem dX9_steal_23 : decode cX9_steal 23 = .ok (.iconst 1, 1) := by decide +kernel
theorem dX9_steal_24 : decode cX9_steal 24 = .ok (.bipush (-2), 2) := by decide +kernel
theorem dX9_steal_26 : decode cX9_steal 26 = .ok (.invokevirtual 119, 3) := by decide +kernel
theorem dX9_steal_29 : decode cX9_steal 29 = .ok (.ireturn, 1) := by decide +kernel
theorem dX9_steal_30 : decode cX9_steal 30 = .ok (.aload_n 0, 1) := by decide +kernel
theorem dX9_steal_31 : decode cX9_steal 31 = .ok (.getfield 48, 3) := by decide +kernel
theorem dX9_steal_34 : decode cX9_steal 34 = .ok (.aload_n 0, 1) := by decide +kernel
theorem dX9_steal_35 : decode cX9_steal 35 = .ok (.getfield 41, 3) := by decide +kernel
theorem dX9_steal_38 : decode cX9_steal 38 = .ok (.invokevirtual 217, 3) := by decide +kernel
theorem dX9_steal_41 : decode cX9_steal 41 = .ok (.aload_n 0, 1) := by decide +kernel
theorem dX9_steal_42 : decode cX9_steal 42 = .ok (.getfield 41, 3) := by decide +kernel
theorem dX9_steal_45 : decode cX9_steal 45 = .ok (.getfield 208, 3) := by decide +kernel
theorem dX9_steal_48 : decode cX9_steal 48 = .ok (.iload_n 2, 1) := by decide +kernel
theorem dX9_steal_49 : decode cX9_steal 49 = .ok (.iaload, 1) := by decide +kernel
theorem dX9_steal_50 : decode cX9_steal 50 = .ok (.istore_n 3, 1) := by decide +kernel
theorem dX9_steal_51 : decode cX9_steal 51 = .ok (.aload_n 0, 1) := by decide +kernel
theorem dX9_steal_52 : decode cX9_steal 52 = .ok (.getfield 41, 3) := by decide +kernel
theorem dX9_steal_55 : decode cX9_steal 55 = .ok (.iload_n 1, 1) := by decide +kernel
theorem dX9_steal_56 : decode cX9_steal 56 = .ok (.iload_n 2, 1) := by decide +kernel
theorem dX9_steal_57 : decode cX9_steal 57 = .ok (.invokevirtual 229, 3) := by decide +kernel
theorem dX9_steal_60 : decode cX9_steal 60 = .ok (.iload_n 3, 1) := by decide +kernel
theorem dX9_steal_61 : decode cX9_steal 61 = .ok (.ireturn, 1) := by decide +kernel
theorem dX9_back_0 : decode cX9_back 0 = .ok (.aload_n 0, 1) := by decide +kernel
theorem dX9_back_1 : decode cX9_back 1 = .ok (.iload_n 1, 1) := by decide +kernel
theorem dX9_back_2 : decode cX9_back 2 = .ok (.invokevirtual 196, 3) := by decide +kernel
theorem dX9_back_5 : decode cX9_back 5 = .ok (.aload_n 0, 1) := by decide +kernel
theorem dX9_back_6 : decode cX9_back 6 = .ok (.getfield 41, 3) := by decide +kernel
theorem dX9_back_9 : decode cX9_back 9 = .ok (.getfield 208, 3) := by decide +kernel
theorem dX9_back_12 : decode cX9_back 12 = .ok (.iload_n 1, 1) := by decide +kernel
theorem dX9_back_13 : decode cX9_back 13 = .ok (.iaload, 1) := by decide +kernel
theorem dX9_back_14 : decode cX9_back 14 = .ok (.iconst (-1), 1) := by decide +kernel
theorem dX9_back_15 : decode cX9_back 15 = .ok (.if_icmp .ne 10, 3) := by decide +kernel
theorem dX9_back_18 : decode cX9_back 18 = .ok (.aload_n 0, 1) := by decide +kernel
theorem dX9_back_19 : decode cX9_back 19 = .ok (.iconst 1, 1) := by decide +kernel
theorem dX9_back_20 : decode cX9_back 20 = .ok (.iconst (-1), 1) := by decide +kernel
theorem dX9_back_21 : decode cX9_back 21 = .ok (.invokevirtual 119, 3) := by decide +kernel
theorem dX9_back_24 : decode cX9_back 24 = .ok (.ireturn, 1) := by decide +kernel
theorem dX9_back_25 : decode cX9_back 25 = .ok (.aload_n 0, 1) := by decide +kernel
theorem dX9_back_26 : decode cX9_back 26 = .ok (.getfield 48, 3) := by decide +kernel
theorem dX9_back_29 : decode cX9_back 29 = .ok (.aload_n 0, 1) := by decide +kernel
theorem dX9_back_30 : decode cX9_back 30 = .ok (.getfield 41, 3) := by decide +kernel
theorem dX9_back_33 : decode cX9_back 33 = .ok (.invokevirtual 217, 3) := by decide +kernel
theorem dX9_back_36 : decode cX9_back 36 = .ok (.aload_n 0, 1) := by decide +kernel
theorem dX9_back_37 : decode cX9_back 37 = .ok (.getfield 41, 3) := by decide +kernel
theorem dX9_back_40 : decode cX9_back 40 = .ok (.getfield 211, 3) := by decide +kernel
theorem dX9_back_43 : decode cX9_back 43 = .ok (.iload_n 1, 1) := by decide +kernel
theorem dX9_back_44 : decode cX9_back 44 = .ok (.iaload, 1) := by decide +kernel
theorem dX9_back_45 : decode cX9_back 45 = .ok (.istore_n 2, 1) := by decide +kernel
theorem dX9_back_46 : decode cX9_back 46 = .ok (.aload_n 0, 1) := by decide +kernel
theorem dX9_back_47 : decode cX9_back 47 = .ok (.getfield 41, 3) := by decide +kernel
theorem dX9_back_50 : decode cX9_back 50 = .ok (.iconst (-1), 1) := by decide +kernel
theorem dX9_back_51 : decode cX9_back 51 = .ok (.iload_n 1, 1) := by decide +kernel
theorem dX9_back_52 : decode cX9_back 52 = .ok (.invokevirtual 229, 3) := by decide +kernel
theorem dX9_back_55 : decode cX9_back 55 = .ok (.iload_n 2, 1) := by decide +kernel
theorem dX9_back_56 : decode cX9_back 56 = .ok (.ireturn, 1) := by decide +kernel
theorem dX9_walk_0 : decode cX9_walk 0 = .ok (.aload_n 0, 1) := by decide +kernel
theorem dX9_walk_1 : decode cX9_walk 1 = .ok (.iload_n 1, 1) := by decide +kernel
theorem dX9_walk_2 : decode cX9_walk 2 = .ok (.invokevirtual 165, 3) := by decide +kernel
theorem dX9_walk_5 : decode cX9_walk 5 = .ok (.iload_n 2, 1) := by decide +kernel
theorem dX9_walk_6 : decode cX9_walk 6 = .ok (.ifCond .lt 31, 3) := by decide +kernel
theorem dX9_walk_9 : decode cX9_walk 9 = .ok (.iload_n 2, 1) := by decide +kernel
theorem dX9_walk_10 : decode cX9_walk 10 = .ok (.aload_n 0, 1) := by decide +kernel
theorem dX9_walk_11 : decode cX9_walk 11 = .ok (.getfield 31, 3) := by decide +kernel
theorem dX9_walk_14 : decode cX9_walk 14 = .ok (.getfield 232, 3) := by decide +kernel
theorem dX9_walk_17 : decode cX9_walk 17 = .ok (.iload_n 1, 1) := by decide +kernel
theorem dX9_walk_18 : decode cX9_walk 18 = .ok (.iaload, 1) := by decide +kernel
theorem dX9_walk_19 : decode cX9_walk 19 = .ok (.if_icmp .ge 18, 3) := by decide +kernel
theorem dX9_walk_22 : decode cX9_walk 22 = .ok (.iload_n 3, 1) := by decide +kernel
theorem dX9_walk_23 : decode cX9_walk 23 = .ok (.ifCond .lt 14, 3) := by decide +kernel
theorem dX9_walk_26 : decode cX9_walk 26 = .ok (.iload_n 3, 1) := by decide +kernel
theorem dX9_walk_27 : decode cX9_walk 27 = .ok (.aload_n 0, 1) := by decide +kernel
theorem dX9_walk_28 : decode cX9_walk 28 = .ok (.getfield 31, 3) := by decide +kernel
theorem dX9_walk_31 : decode cX9_walk 31 = .ok (.getfield 135, 3) := by decide +kernel
theorem dX9_walk_34 : decode cX9_walk 34 = .ok (.if_icmp .lt 11, 3) := by decide +kernel
theorem dX9_walk_37 : decode cX9_walk 37 = .ok (.new 235, 3) := by decide +kernel
theorem dX9_walk_40 : decode cX9_walk 40 = .ok (.dup, 1) := by decide +kernel
theorem dX9_walk_41 : decode cX9_walk 41 = .ok (.invokespecial 237, 3) := by decide +kernel
theorem dX9_walk_44 : decode cX9_walk 44 = .ok (.athrow, 1) := by decide +kernel
theorem dX9_walk_45 : decode cX9_walk 45 = .ok (.iload_n 1, 1) := by decide +kernel
theorem dX9_walk_46 : decode cX9_walk 46 = .ok (.bipush 6, 2) := by decide +kernel
theorem dX9_walk_48 : decode cX9_walk 48 = .ok (.imul, 1) := by decide +kernel
theorem dX9_walk_49 : decode cX9_walk 49 = .ok (.iload_n 2, 1) := by decide +kernel
theorem dX9_walk_50 : decode cX9_walk 50 = .ok (.iadd, 1) := by decide +kernel
theorem dX9_walk_51 : decode cX9_walk 51 = .ok (.istore 4, 2) := by decide +kernel
theorem dX9_walk_53 : decode cX9_walk 53 = .ok (.aload_n 0, 1) := by decide +kernel
theorem dX9_walk_54 : decode cX9_walk 54 = .ok (.getfield 41, 3) := by decide +kernel
theorem dX9_walk_57 : decode cX9_walk 57 = .ok (.getfield 238, 3) := by decide +kernel
theorem dX9_walk_60 : decode cX9_walk 60 = .ok (.iload 4, 2) := by decide +kernel
theorem dX9_walk_62 : decode cX9_walk 62 = .ok (.iaload, 1) := by decide +kernel
theorem dX9_walk_63 : decode cX9_walk 63 = .ok (.istore 5, 2) := by decide +kernel
theorem dX9_walk_65 : decode cX9_walk 65 = .ok (.iload 5, 2) := by decide +kernel
theorem dX9_walk_67 : decode cX9_walk 67 = .ok (.iload_n 3, 1) := by decide +kernel
theorem dX9_walk_68 : decode cX9_walk 68 = .ok (.if_icmp .ne 10, 3) := by decide +kernel
theorem dX9_walk_71 : decode cX9_walk 71 = .ok (.aload_n 0, 1) := by decide +kernel
theorem dX9_walk_72 : decode cX9_walk 72 = .ok (.iconst 1, 1) := by decide +kernel
theorem dX9_walk_73 : decode cX9_walk 73 = .ok (.iconst (-1), 1) := by decide +kernel
theorem dX9_walk_74 : decode cX9_walk 74 = .ok (.invokevirtual 119, 3) := by decide +kernel
theorem dX9_walk_77 : decode cX9_walk 77 = .ok (.ireturn, 1) := by decide +kernel
theorem dX9_walk_78 : decode cX9_walk 78 = .ok (.aload_n 0, 1) := by decide +kernel
theorem dX9_walk_79 : decode cX9_walk 79 = .ok (.getfield 48, 3) := by decide +kernel
theorem dX9_walk_82 : decode cX9_walk 82 = .ok (.aload_n 0, 1) := by decide +kernel
theorem dX9_walk_83 : decode cX9_walk 83 = .ok (.getfield 41, 3) := by decide +kernel
theorem dX9_walk_86 : decode cX9_walk 86 = .ok (.invokevirtual 217, 3) := by decide +kernel
theorem dX9_walk_89 : decode cX9_walk 89 = .ok (.aload_n 0, 1) := by decide +kernel
theorem dX9_walk_90 : decode cX9_walk 90 = .ok (.getfield 41, 3) := by decide +kernel
theorem dX9_walk_93 : decode cX9_walk 93 = .ok (.getfield 238, 3) := by decide +kernel
theorem dX9_walk_96 : decode cX9_walk 96 = .ok (.iload 4, 2) := by decide +kernel
theorem dX9_walk_98 : decode cX9_walk 98 = .ok (.iload_n 3, 1) := by decide +kernel
theorem dX9_walk_99 : decode cX9_walk 99 = .ok (.iastore, 1) := by decide +kernel
theorem dX9_walk_100 : decode cX9_walk 100 = .ok (.iload 5, 2) := by decide +kernel
theorem dX9_walk_102 : decode cX9_walk 102 = .ok (.ireturn, 1) := by decide +kernel
theorem dX9_dye_0 : decode cX9_dye 0 = .ok (.aload_n 0, 1) := by decide +kernel
theorem dX9_dye_1 : decode cX9_dye 1 = .ok (.iload_n 1, 1) := by decide +kernel
theorem dX9_dye_2 : decode cX9_dye 2 = .ok (.invokevirtual 196, 3) := by decide +kernel
theorem dX9_dye_5 : decode cX9_dye 5 = .ok (.iload_n 2, 1) := by decide +kernel
theorem dX9_dye_6 : decode cX9_dye 6 = .ok (.ifCond .lt 9, 3) := by decide +kernel
theorem dX9_dye_9 : decode cX9_dye 9 = .ok (.iload_n 2, 1) := by decide +kernel
theorem dX9_dye_10 : decode cX9_dye 10 = .ok (.bipush 9, 2) := by decide +kernel
theorem dX9_dye_12 : decode cX9_dye 12 = .ok (.if_icmp .le 10, 3) := by decide +kernel
theorem dX9_dye_15 : decode cX9_dye 15 = .ok (.aload_n 0, 1) := by decide +kernel
theorem dX9_dye_16 : decode cX9_dye 16 = .ok (.iconst 1, 1) := by decide +kernel
theorem dX9_dye_17 : decode cX9_dye 17 = .ok (.iconst (-1), 1) := by decide +kernel
theorem dX9_dye_18 : decode cX9_dye 18 = .ok (.invokevirtual 119, 3) := by decide +kernel
theorem dX9_dye_21 : decode cX9_dye 21 = .ok (.ireturn, 1) := by decide +kernel
theorem dX9_dye_22 : decode cX9_dye 22 = .ok (.aload_n 0, 1) := by decide +kernel
theorem dX9_dye_23 : decode cX9_dye 23 = .ok (.getfield 48, 3) := by decide +kernel
theorem dX9_dye_26 : decode cX9_dye 26 = .ok (.aload_n 0, 1) := by decide +kernel
theorem dX9_dye_27 : decode cX9_dye 27 = .ok (.getfield 41, 3) := by decide +kernel
theorem dX9_dye_30 : decode cX9_dye 30 = .ok (.invokevirtual 217, 3) := by decide +kernel
theorem dX9_dye_33 : decode cX9_dye 33 = .ok (.aload_n 0, 1) := by decide +kernel
theorem dX9_dye_34 : decode cX9_dye 34 = .ok (.getfield 41, 3) := by decide +kernel
theorem dX9_dye_37 : decode cX9_dye 37 = .ok (.getfield 202, 3) := by decide +kernel
theorem dX9_dye_40 : decode cX9_dye 40 = .ok (.iload_n 1, 1) := by decide +kernel
theorem dX9_dye_41 : decode cX9_dye 41 = .ok (.iaload, 1) := by decide +kernel
theorem dX9_dye_42 : decode cX9_dye 42 = .ok (.istore_n 3, 1) := by decide +kernel
theorem dX9_dye_43 : decode cX9_dye 43 = .ok (.aload_n 0, 1) := by decide +kernel
theorem dX9_dye_44 : decode cX9_dye 44 = .ok (.getfield 41, 3) := by decide +kernel
theorem dX9_dye_47 : decode cX9_dye 47 = .ok (.getfield 202, 3) := by decide +kernel
theorem dX9_dye_50 : decode cX9_dye 50 = .ok (.iload_n 1, 1) := by decide +kernel
theorem dX9_dye_51 : decode cX9_dye 51 = .ok (.iload_n 2, 1) := by decide +kernel
theorem dX9_dye_52 : decode cX9_dye 52 = .ok (.iastore, 1) := by decide +kernel
theorem dX9_dye_53 : decode cX9_dye 53 = .ok (.iload_n 3, 1) := by decide +kernel
theorem dX9_dye_54 : decode cX9_dye 54 = .ok (.ireturn, 1) := by decide +kernel
theorem dX9_undo_0 : decode cX9_undo 0 = .ok (.aload_n 0, 1) := by decide +kernel
theorem dX9_undo_1 : decode cX9_undo 1 = .ok (.getfield 48, 3) := by decide +kernel
theorem dX9_undo_4 : decode cX9_undo 4 = .ok (.aload_n 0, 1) := by decide +kernel
theorem dX9_undo_5 : decode cX9_undo 5 = .ok (.getfield 41, 3) := by decide +kernel
theorem dX9_undo_8 : decode cX9_undo 8 = .ok (.invokevirtual 241, 3) := by decide +kernel
theorem dX9_undo_11 : decode cX9_undo 11 = .ok (.ireturn, 1) := by decide +kernel
theorem dX9_then_0 : decode cX9_then 0 = .ok (.aload_n 0, 1) := by decide +kernel
theorem dX9_then_1 : decode cX9_then 1 = .ok (.iload_n 1, 1) := by decide +kernel
theorem dX9_then_2 : decode cX9_then 2 = .ok (.invokevirtual 196, 3) := by decide +kernel
theorem dX9_then_5 : decode cX9_then 5 = .ok (.iload_n 3, 1) := by decide +kernel
theorem dX9_then_6 : decode cX9_then 6 = .ok (.iconst 2, 1) := by decide +kernel
theorem dX9_then_7 : decode cX9_then 7 = .ok (.invokestatic 131, 3) := by decide +kernel
theorem dX9_then_10 : decode cX9_then 10 = .ok (.iload_n 2, 1) := by decide +kernel
theorem dX9_then_11 : decode cX9_then 11 = .ok (.iconst 0, 1) := by decide +kernel
theorem dX9_then_12 : decode cX9_then 12 = .ok (.bipush 100, 2) := by decide +kernel
theorem dX9_then_14 : decode cX9_then 14 = .ok (.invokestatic 244, 3) := by decide +kernel
theorem dX9_then_17 : decode cX9_then 17 = .ok (.aload_n 0, 1) := by decide +kernel
theorem dX9_then_18 : decode cX9_then 18 = .ok (.getfield 71, 3) := by decide +kernel
theorem dX9_then_21 : decode cX9_then 21 = .ok (.aload_n 0, 1) := by decide +kernel
theorem dX9_then_22 : decode cX9_then 22 = .ok (.getfield 41, 3) := by decide +kernel
theorem dX9_then_25 : decode cX9_then 25 = .ok (.iload_n 2, 1) := by decide +kernel
theorem dX9_then_26 : decode cX9_then 26 = .ok (.invokevirtual 248, 3) := by decide +kernel
theorem dX9_then_29 : decode cX9_then 29 = .ok (.astore 4, 2) := by decide +kernel
theorem dX9_then_31 : decode cX9_then 31 = .ok (.iload_n 3, 1) := by decide +kernel
theorem dX9_then_32 : decode cX9_then 32 = .ok (.ifCond .ne 11, 3) := by decide +kernel
theorem dX9_then_35 : decode cX9_then 35 = .ok (.aload 4, 2) := by decide +kernel
theorem dX9_then_37 : decode cX9_then 37 = .ok (.getfield 208, 3) := by decide +kernel
theorem dX9_then_40 : decode cX9_then 40 = .ok (.iload_n 1, 1) := by decide +kernel
theorem dX9_then_41 : decode cX9_then 41 = .ok (.iaload, 1) := by decide +kernel
theorem dX9_then_42 : decode cX9_then 42 = .ok (.ireturn, 1) := by decide +kernel
theorem dX9_then_43 : decode cX9_then 43 = .ok (.iload_n 3, 1) := by decide +kernel
theorem dX9_then_44 : decode cX9_then 44 = .ok (.iconst 1, 1) := by decide +kernel
theorem dX9_then_45 : decode cX9_then 45 = .ok (.if_icmp .ne 13, 3) := by decide +kernel
theorem dX9_then_48 : decode cX9_then 48 = .ok (.aload 4, 2) := by decide +kernel
theorem dX9_then_50 : decode cX9_then 50 = .ok (.getfield 205, 3) := by decide +kernel
theorem dX9_then_53 : decode cX9_then 53 = .ok (.iload_n 1, 1) := by decide +kernel
theorem dX9_then_54 : decode cX9_then 54 = .ok (.iaload, 1) := by decide +kernel
theorem dX9_then_55 : decode cX9_then 55 = .ok (.goto 10, 3) := by decide +kernel
theorem dX9_then_58 : decode cX9_then 58 = .ok (.aload 4, 2) := by decide +kernel
theorem dX9_then_60 : decode cX9_then 60 = .ok (.getfield 211, 3) := by decide +kernel
theorem dX9_then_63 : decode cX9_then 63 = .ok (.iload_n 1, 1) := by decide +kernel
theorem dX9_then_64 : decode cX9_then 64 = .ok (.iaload, 1) := by decide +kernel
theorem dX9_then_65 : decode cX9_then 65 = .ok (.ireturn, 1) := by decide +kernel
theorem dX9_later_0 : decode cX9_later 0 = .ok (.aload_n 0, 1) := by decide +kernel
theorem dX9_later_1 : decode cX9_later 1 = .ok (.iload_n 1, 1) := by decide +kernel
theorem dX9_later_2 : decode cX9_later 2 = .ok (.invokevirtual 165, 3) := by decide +kernel
theorem dX9_later_5 : decode cX9_later 5 = .ok (.iload_n 3, 1) := by decide +kernel
theorem dX9_later_6 : decode cX9_later 6 = .ok (.iconst 1, 1) := by decide +kernel
theorem dX9_later_7 : decode cX9_later 7 = .ok (.invokestatic 131, 3) := by decide +kernel
theorem dX9_later_10 : decode cX9_later 10 = .ok (.iload_n 2, 1) := by decide +kernel
theorem dX9_later_11 : decode cX9_later 11 = .ok (.iconst 0, 1) := by decide +kernel
theorem dX9_later_12 : decode cX9_later 12 = .ok (.bipush 100, 2) := by decide +kernel
theorem dX9_later_14 : decode cX9_later 14 = .ok (.invokestatic 244, 3) := by decide +kernel
theorem dX9_later_17 : decode cX9_later 17 = .ok (.aload_n 0, 1) := by decide +kernel
theorem dX9_later_18 : decode cX9_later 18 = .ok (.getfield 71, 3) := by decide +kernel
theorem dX9_later_21 : decode cX9_later 21 = .ok (.aload_n 0, 1) := by decide +kernel
theorem dX9_later_22 : decode cX9_later 22 = .ok (.getfield 41, 3) := by decide +kernel
theorem dX9_later_25 : decode cX9_later 25 = .ok (.iload_n 2, 1) := by decide +kernel
theorem dX9_later_26 : decode cX9_later 26 = .ok (.invokevirtual 248, 3) := by decide +kernel
theorem dX9_later_29 : decode cX9_later 29 = .ok (.astore 4, 2) := by decide +kernel
theorem dX9_later_31 : decode cX9_later 31 = .ok (.iload_n 3, 1) := by decide +kernel
theorem dX9_later_32 : decode cX9_later 32 = .ok (.ifCond .ne 13, 3) := by decide +kernel
theorem dX9_later_35 : decode cX9_later 35 = .ok (.aload 4, 2) := by decide +kernel
theorem dX9_later_37 : decode cX9_later 37 = .ok (.getfield 174, 3) := by decide +kernel
theorem dX9_later_40 : decode cX9_later 40 = .ok (.iload_n 1, 1) := by decide +kernel
theorem dX9_later_41 : decode cX9_later 41 = .ok (.iaload, 1) := by decide +kernel
theorem dX9_later_42 : decode cX9_later 42 = .ok (.goto 9, 3) := by decide +kernel
theorem dX9_later_45 : decode cX9_later 45 = .ok (.aload 4, 2) := by decide +kernel
theorem dX9_later_47 : decode cX9_later 47 = .ok (.iload_n 1, 1) := by decide +kernel
theorem dX9_later_48 : decode cX9_later 48 = .ok (.invokevirtual 190, 3) := by decide +kernel
theorem dX9_later_51 : decode cX9_later 51 = .ok (.ireturn, 1) := by decide +kernel
theorem dX9_when_0 : decode cX9_when 0 = .ok (.aload_n 0, 1) := by decide +kernel
theorem dX9_when_1 : decode cX9_when 1 = .ok (.iload_n 1, 1) := by decide +kernel
theorem dX9_when_2 : decode cX9_when 2 = .ok (.invokevirtual 196, 3) := by decide +kernel
theorem dX9_when_5 : decode cX9_when 5 = .ok (.iload_n 2, 1) := by decide +kernel
theorem dX9_when_6 : decode cX9_when 6 = .ok (.iconst 1, 1) := by decide +kernel
theorem dX9_when_7 : decode cX9_when 7 = .ok (.invokestatic 131, 3) := by decide +kernel
theorem dX9_when_10 : decode cX9_when 10 = .ok (.aload_n 0, 1) := by decide +kernel
theorem dX9_when_11 : decode cX9_when 11 = .ok (.getfield 71, 3) := by decide +kernel
theorem dX9_when_14 : decode cX9_when 14 = .ok (.aload_n 0, 1) := by decide +kernel
theorem dX9_when_15 : decode cX9_when 15 = .ok (.getfield 41, 3) := by decide +kernel
theorem dX9_when_18 : decode cX9_when 18 = .ok (.invokevirtual 252, 3) := by decide +kernel
theorem dX9_when_21 : decode cX9_when 21 = .ok (.aload_n 0, 1) := by decide +kernel
theorem dX9_when_22 : decode cX9_when 22 = .ok (.getfield 71, 3) := by decide +kernel
theorem dX9_when_25 : decode cX9_when 25 = .ok (.iload_n 1, 1) := by decide +kernel
theorem dX9_when_26 : decode cX9_when 26 = .ok (.iload_n 2, 1) := by decide +kernel
theorem dX9_when_27 : decode cX9_when 27 = .ok (.ifCond .ne 7, 3) := by decide +kernel
theorem dX9_when_30 : decode cX9_when 30 = .ok (.iconst 1, 1) := by decide +kernel
theorem dX9_when_31 : decode cX9_when 31 = .ok (.goto 4, 3) := by decide +kernel
theorem dX9_when_34 : decode cX9_when 34 = .ok (.iconst 0, 1) := by decide +kernel
theorem dX9_when_35 : decode cX9_when 35 = .ok (.invokevirtual 255, 3) := by decide +kernel
theorem dX9_when_38 : decode cX9_when 38 = .ok (.ireturn, 1) := by decide +kernel
theorem dX9_all_0 : decode cX9_all 0 = .ok (.iload_n 2, 1) := by decide +kernel
theorem dX9_all_1 : decode cX9_all 1 = .ok (.iconst 3, 1) := by decide +kernel
theorem dX9_all_2 : decode cX9_all 2 = .ok (.invokestatic 131, 3) := by decide +kernel
theorem dX9_all_5 : decode cX9_all 5 = .ok (.iload_n 1, 1) := by decide +kernel
theorem dX9_all_6 : decode cX9_all 6 = .ok (.iconst 0, 1) := by decide +kernel
theorem dX9_all_7 : decode cX9_all 7 = .ok (.bipush 100, 2) := by decide +kernel
theorem dX9_all_9 : decode cX9_all 9 = .ok (.invokestatic 244, 3) := by decide +kernel
theorem dX9_all_12 : decode cX9_all 12 = .ok (.aload_n 0, 1) := by decide +kernel
theorem dX9_all_13 : decode cX9_all 13 = .ok (.getfield 71, 3) := by decide +kernel
theorem dX9_all_16 : decode cX9_all 16 = .ok (.aload_n 0, 1) := by decide +kernel
theorem dX9_all_17 : decode cX9_all 17 = .ok (.getfield 41, 3) := by decide +kernel
theorem dX9_all_20 : decode cX9_all 20 = .ok (.iload_n 1, 1) := by decide +kernel
theorem dX9_all_21 : decode cX9_all 21 = .ok (.invokevirtual 248, 3) := by decide +kernel
theorem dX9_all_24 : decode cX9_all 24 = .ok (.astore_n 3, 1) := by decide +kernel
theorem dX9_all_25 : decode cX9_all 25 = .ok (.iload_n 2, 1) := by decide +kernel
theorem dX9_all_26 : decode cX9_all 26 = .ok (.tableswitch 41 0 2 #[26, 31, 36], 26) := by decide +kernel
theorem dX9_all_52 : decode cX9_all 52 = .ok (.aload_n 3, 1) := by decide +kernel
theorem dX9_all_53 : decode cX9_all 53 = .ok (.invokevirtual 259, 3) := by decide +kernel
theorem dX9_all_56 : decode cX9_all 56 = .ok (.ireturn, 1) := by decide +kernel
theorem dX9_all_57 : decode cX9_all 57 = .ok (.aload_n 3, 1) := by decide +kernel
theorem dX9_all_58 : decode cX9_all 58 = .ok (.invokevirtual 262, 3) := by decide +kernel
theorem dX9_all_61 : decode cX9_all 61 = .ok (.ireturn, 1) := by decide +kernel
theorem dX9_all_62 : decode cX9_all 62 = .ok (.aload_n 3, 1) := by decide +kernel
theorem dX9_all_63 : decode cX9_all 63 = .ok (.invokevirtual 150, 3) := by decide +kernel
theorem dX9_all_66 : decode cX9_all 66 = .ok (.ireturn, 1) := by decide +kernel
theorem dX9_all_67 : decode cX9_all 67 = .ok (.aload_n 3, 1) := by decide +kernel
theorem dX9_all_68 : decode cX9_all 68 = .ok (.getfield 265, 3) := by decide +kernel
theorem dX9_all_71 : decode cX9_all 71 = .ok (.ireturn, 1) := by decide +kernel
theorem dX9_where_0 : decode cX9_where 0 = .ok (.aload_n 0, 1) := by decide +kernel
theorem dX9_where_1 : decode cX9_where 1 = .ok (.iload_n 1, 1) := by decide +kernel
theorem dX9_where_2 : decode cX9_where 2 = .ok (.invokevirtual 165, 3) := by decide +kernel
theorem dX9_where_5 : decode cX9_where 5 = .ok (.iload_n 3, 1) := by decide +kernel
theorem dX9_where_6 : decode cX9_where 6 = .ok (.iconst 1, 1) := by decide +kernel
theorem dX9_where_7 : decode cX9_where 7 = .ok (.invokestatic 131, 3) := by decide +kernel
theorem dX9_where_10 : decode cX9_where 10 = .ok (.iload_n 2, 1) := by decide +kernel
theorem dX9_where_11 : decode cX9_where 11 = .ok (.iconst 1, 1) := by decide +kernel
theorem dX9_where_12 : decode cX9_where 12 = .ok (.bipush 100, 2) := by decide +kernel
theorem dX9_where_14 : decode cX9_where 14 = .ok (.invokestatic 244, 3) := by decide +kernel
theorem dX9_where_17 : decode cX9_where 17 = .ok (.aload_n 0, 1) := by decide +kernel
theorem dX9_where_18 : decode cX9_where 18 = .ok (.getfield 41, 3) := by decide +kernel
theorem dX9_where_21 : decode cX9_where 21 = .ok (.getfield 147, 3) := by decide +kernel
theorem dX9_where_24 : decode cX9_where 24 = .ok (.iload_n 2, 1) := by decide +kernel
theorem dX9_where_25 : decode cX9_where 25 = .ok (.iadd, 1) := by decide +kernel
theorem dX9_where_26 : decode cX9_where 26 = .ok (.iconst 1, 1) := by decide +kernel
theorem dX9_where_27 : decode cX9_where 27 = .ok (.isub, 1) := by decide +kernel
theorem dX9_where_28 : decode cX9_where 28 = .ok (.istore 4, 2) := by decide +kernel
theorem dX9_where_30 : decode cX9_where 30 = .ok (.iload_n 3, 1) := by decide +kernel
theorem dX9_where_31 : decode cX9_where 31 = .ok (.ifCond .ne 16, 3) := by decide +kernel
theorem dX9_where_34 : decode cX9_where 34 = .ok (.aload_n 0, 1) := by decide +kernel
theorem dX9_where_35 : decode cX9_where 35 = .ok (.getfield 41, 3) := by decide +kernel
theorem dX9_where_38 : decode cX9_where 38 = .ok (.iload_n 1, 1) := by decide +kernel
theorem dX9_where_39 : decode cX9_where 39 = .ok (.iload 4, 2) := by decide +kernel
theorem dX9_where_41 : decode cX9_where 41 = .ok (.invokevirtual 171, 3) := by decide +kernel
theorem dX9_where_44 : decode cX9_where 44 = .ok (.goto 13, 3) := by decide +kernel
theorem dX9_where_47 : decode cX9_where 47 = .ok (.aload_n 0, 1) := by decide +kernel
theorem dX9_where_48 : decode cX9_where 48 = .ok (.getfield 41, 3) := by decide +kernel
theorem dX9_where_51 : decode cX9_where 51 = .ok (.iload_n 1, 1) := by decide +kernel
theorem dX9_where_52 : decode cX9_where 52 = .ok (.iload 4, 2) := by decide +kernel
theorem dX9_where_54 : decode cX9_where 54 = .ok (.invokevirtual 268, 3) := by decide +kernel
theorem dX9_where_57 : decode cX9_where 57 = .ok (.ireturn, 1) := by decide +kernel
theorem dX9_toStand_0 : decode cX9_toStand 0 = .ok (.aload_n 0, 1) := by decide +kernel
theorem dX9_toStand_1 : decode cX9_toStand 1 = .ok (.iload_n 1, 1) := by decide +kernel
theorem dX9_toStand_2 : decode cX9_toStand 2 = .ok (.invokevirtual 196, 3) := by decide +kernel
theorem dX9_toStand_5 : decode cX9_toStand 5 = .ok (.iload_n 2, 1) := by decide +kernel
theorem dX9_toStand_6 : decode cX9_toStand 6 = .ok (.iconst 1, 1) := by decide +kernel
theorem dX9_toStand_7 : decode cX9_toStand 7 = .ok (.invokestatic 131, 3) := by decide +kernel
theorem dX9_toStand_10 : decode cX9_toStand 10 = .ok (.aload_n 0, 1) := by decide +kernel
theorem dX9_toStand_11 : decode cX9_toStand 11 = .ok (.getfield 71, 3) := by decide +kernel
theorem dX9_toStand_14 : decode cX9_toStand 14 = .ok (.aload_n 0, 1) := by decide +kernel
theorem dX9_toStand_15 : decode cX9_toStand 15 = .ok (.getfield 41, 3) := by decide +kernel
theorem dX9_toStand_18 : decode cX9_toStand 18 = .ok (.iload_n 1, 1) := by decide +kernel
theorem dX9_toStand_19 : decode cX9_toStand 19 = .ok (.iload_n 2, 1) := by decide +kernel
theorem dX9_toStand_20 : decode cX9_toStand 20 = .ok (.ifCond .ne 7, 3) := by decide +kernel
theorem dX9_toStand_23 : decode cX9_toStand 23 = .ok (.iconst 1, 1) := by decide +kernel
theorem dX9_toStand_24 : decode cX9_toStand 24 = .ok (.goto 4, 3) := by decide +kernel
theorem dX9_toStand_27 : decode cX9_toStand 27 = .ok (.iconst 0, 1) := by decide +kernel
theorem dX9_toStand_28 : decode cX9_toStand 28 = .ok (.invokevirtual 271, 3) := by decide +kernel
theorem dX9_toStand_31 : decode cX9_toStand 31 = .ok (.ireturn, 1) := by decide +kernel
theorem dX9_toSteal_0 : decode cX9_toSteal 0 = .ok (.aload_n 0, 1) := by decide +kernel
theorem dX9_toSteal_1 : decode cX9_toSteal 1 = .ok (.iload_n 1, 1) := by decide +kernel
theorem dX9_toSteal_2 : decode cX9_toSteal 2 = .ok (.invokevirtual 165, 3) := by decide +kernel
theorem dX9_toSteal_5 : decode cX9_toSteal 5 = .ok (.iload_n 2, 1) := by decide +kernel
theorem dX9_toSteal_6 : decode cX9_toSteal 6 = .ok (.iconst 1, 1) := by decide +kernel
theorem dX9_toSteal_7 : decode cX9_toSteal 7 = .ok (.invokestatic 131, 3) := by decide +kernel
theorem dX9_toSteal_10 : decode cX9_toSteal 10 = .ok (.aload_n 0, 1) := by decide +kernel
theorem dX9_toSteal_11 : decode cX9_toSteal 11 = .ok (.getfield 71, 3) := by decide +kernel
theorem dX9_toSteal_14 : decode cX9_toSteal 14 = .ok (.aload_n 0, 1) := by decide +kernel
theorem dX9_toSteal_15 : decode cX9_toSteal 15 = .ok (.getfield 41, 3) := by decide +kernel
theorem dX9_toSteal_18 : decode cX9_toSteal 18 = .ok (.iload_n 1, 1) := by decide +kernel
theorem dX9_toSteal_19 : decode cX9_toSteal 19 = .ok (.iload_n 2, 1) := by decide +kernel
theorem dX9_toSteal_20 : decode cX9_toSteal 20 = .ok (.ifCond .ne 7, 3) := by decide +kernel
theorem dX9_toSteal_23 : decode cX9_toSteal 23 = .ok (.iconst 1, 1) := by decide +kernel
theorem dX9_toSteal_24 : decode cX9_toSteal 24 = .ok (.goto 4, 3) := by decide +kernel
theorem dX9_toSteal_27 : decode cX9_toSteal 27 = .ok (.iconst 0, 1) := by decide +kernel
theorem dX9_toSteal_28 : decode cX9_toSteal 28 = .ok (.invokevirtual 275, 3) := by decide +kernel
theorem dX9_toSteal_31 : decode cX9_toSteal 31 = .ok (.ireturn, 1) := by decide +kernel
theorem dX9_watch_0 : decode cX9_watch 0 = .ok (.iload_n 1, 1) := by decide +kernel
theorem dX9_watch_1 : decode cX9_watch 1 = .ok (.iconst 1, 1) := by decide +kernel
theorem dX9_watch_2 : decode cX9_watch 2 = .ok (.bipush 100, 2) := by decide +kernel
theorem dX9_watch_4 : decode cX9_watch 4 = .ok (.invokestatic 244, 3) := by decide +kernel
theorem dX9_watch_7 : decode cX9_watch 7 = .ok (.aload_n 0, 1) := by decide +kernel
theorem dX9_watch_8 : decode cX9_watch 8 = .ok (.getfield 85, 3) := by decide +kernel
theorem dX9_watch_11 : decode cX9_watch 11 = .ok (.aload_n 0, 1) := by decide +kernel
theorem dX9_watch_12 : decode cX9_watch 12 = .ok (.getfield 41, 3) := by decide +kernel
theorem dX9_watch_15 : decode cX9_watch 15 = .ok (.iload_n 1, 1) := by decide +kernel
theorem dX9_watch_16 : decode cX9_watch 16 = .ok (.invokevirtual 278, 3) := by decide +kernel
theorem dX9_watch_19 : decode cX9_watch 19 = .ok (.ireturn, 1) := by decide +kernel
theorem dX9_least_0 : decode cX9_least 0 = .ok (.iload_n 1, 1) := by decide +kernel
theorem dX9_least_1 : decode cX9_least 1 = .ok (.iconst (-1), 1) := by decide +kernel
theorem dX9_least_2 : decode cX9_least 2 = .ok (.if_icmp .eq 8, 3) := by decide +kernel
theorem dX9_least_5 : decode cX9_least 5 = .ok (.aload_n 0, 1) := by decide +kernel
theorem dX9_least_6 : decode cX9_least 6 = .ok (.iload_n 1, 1) := by decide +kernel
theorem dX9_least_7 : decode cX9_least 7 = .ok (.invokevirtual 196, 3) := by decide +kernel
theorem dX9_least_10 : decode cX9_least 10 = .ok (.aload_n 0, 1) := by decide +kernel
theorem dX9_least_11 : decode cX9_least 11 = .ok (.getfield 85, 3) := by decide +kernel
theorem dX9_least_14 : decode cX9_least 14 = .ok (.aload_n 0, 1) := by decide +kernel
theorem dX9_least_15 : decode cX9_least 15 = .ok (.getfield 41, 3) := by decide +kernel
theorem dX9_least_18 : decode cX9_least 18 = .ok (.iload_n 1, 1) := by decide +kernel
theorem dX9_least_19 : decode cX9_least 19 = .ok (.invokevirtual 282, 3) := by decide +kernel
theorem dX9_least_22 : decode cX9_least 22 = .ok (.ireturn, 1) := by decide +kernel
theorem dX9_whose_0 : decode cX9_whose 0 = .ok (.aload_n 0, 1) := by decide +kernel
theorem dX9_whose_1 : decode cX9_whose 1 = .ok (.iload_n 1, 1) := by decide +kernel
theorem dX9_whose_2 : decode cX9_whose 2 = .ok (.invokevirtual 165, 3) := by decide +kernel
theorem dX9_whose_5 : decode cX9_whose 5 = .ok (.aload_n 0, 1) := by decide +kernel
theorem dX9_whose_6 : decode cX9_whose 6 = .ok (.getfield 85, 3) := by decide +kernel
theorem dX9_whose_9 : decode cX9_whose 9 = .ok (.aload_n 0, 1) := by decide +kernel
theorem dX9_whose_10 : decode cX9_whose 10 = .ok (.getfield 41, 3) := by decide +kernel
theorem dX9_whose_13 : decode cX9_whose 13 = .ok (.iload_n 1, 1) := by decide +kernel
theorem dX9_whose_14 : decode cX9_whose 14 = .ok (.invokevirtual 285, 3) := by decide +kernel
theorem dX9_whose_17 : decode cX9_whose 17 = .ok (.ireturn, 1) := by decide +kernel
theorem dX9_note_0 : decode cX9_note 0 = .ok (.aload_n 0, 1) := by decide +kernel
theorem dX9_note_1 : decode cX9_note 1 = .ok (.iload_n 1, 1) := by decide +kernel
theorem dX9_note_2 : decode cX9_note 2 = .ok (.invokevirtual 196, 3) := by decide +kernel
theorem dX9_note_5 : decode cX9_note 5 = .ok (.aload_n 0, 1) := by decide +kernel
theorem dX9_note_6 : decode cX9_note 6 = .ok (.getfield 55, 3) := by decide +kernel
theorem dX9_note_9 : decode cX9_note 9 = .ok (.invokevirtual 288, 3) := by decide +kernel
theorem dX9_note_12 : decode cX9_note 12 = .ok (.ifCond .ne 13, 3) := by decide +kernel
theorem dX9_note_15 : decode cX9_note 15 = .ok (.iload_n 2, 1) := by decide +kernel
theorem dX9_note_16 : decode cX9_note 16 = .ok (.ifCond .lt 9, 3) := by decide +kernel
theorem dX9_note_19 : decode cX9_note 19 = .ok (.iload_n 2, 1) := by decide +kernel
theorem dX9_note_20 : decode cX9_note 20 = .ok (.bipush 30, 2) := by decide +kernel
theorem dX9_note_22 : decode cX9_note 22 = .ok (.if_icmp .le 10, 3) := by decide +kernel
theorem dX9_note_25 : decode cX9_note 25 = .ok (.aload_n 0, 1) := by decide +kernel
theorem dX9_note_26 : decode cX9_note 26 = .ok (.iconst 2, 1) := by decide +kernel
theorem dX9_note_27 : decode cX9_note 27 = .ok (.iconst (-1), 1) := by decide +kernel
theorem dX9_note_28 : decode cX9_note 28 = .ok (.invokevirtual 119, 3) := by decide +kernel
theorem dX9_note_31 : decode cX9_note 31 = .ok (.ireturn, 1) := by decide +kernel
theorem dX9_note_32 : decode cX9_note 32 = .ok (.aload_n 0, 1) := by decide +kernel
theorem dX9_note_33 : decode cX9_note 33 = .ok (.getfield 55, 3) := by decide +kernel
theorem dX9_note_36 : decode cX9_note 36 = .ok (.iload_n 1, 1) := by decide +kernel
theorem dX9_note_37 : decode cX9_note 37 = .ok (.iload_n 2, 1) := by decide +kernel
theorem dX9_note_38 : decode cX9_note 38 = .ok (.iload_n 3, 1) := by decide +kernel
theorem dX9_note_39 : decode cX9_note 39 = .ok (.invokevirtual 291, 3) := by decide +kernel
theorem dX9_note_42 : decode cX9_note 42 = .ok (.aload_n 0, 1) := by decide +kernel
theorem dX9_note_43 : decode cX9_note 43 = .ok (.getfield 55, 3) := by decide +kernel
theorem dX9_note_46 : decode cX9_note 46 = .ok (.getfield 164, 3) := by decide +kernel
theorem dX9_note_49 : decode cX9_note 49 = .ok (.ireturn, 1) := by decide +kernel
theorem dX9_forget_0 : decode cX9_forget 0 = .ok (.aload_n 0, 1) := by decide +kernel
theorem dX9_forget_1 : decode cX9_forget 1 = .ok (.getfield 55, 3) := by decide +kernel
theorem dX9_forget_4 : decode cX9_forget 4 = .ok (.invokevirtual 126, 3) := by decide +kernel
theorem dX9_forget_7 : decode cX9_forget 7 = .ok (.return_, 1) := by decide +kernel
theorem dX9_vain_0 : decode cX9_vain 0 = .ok (.iload_n 1, 1) := by decide +kernel
theorem dX9_vain_1 : decode cX9_vain 1 = .ok (.iconst 2, 1) := by decide +kernel
theorem dX9_vain_2 : decode cX9_vain 2 = .ok (.invokestatic 131, 3) := by decide +kernel
theorem dX9_vain_5 : decode cX9_vain 5 = .ok (.iload_n 1, 1) := by decide +kernel
theorem dX9_vain_6 : decode cX9_vain 6 = .ok (.iconst 2, 1) := by decide +kernel
theorem dX9_vain_7 : decode cX9_vain 7 = .ok (.if_icmp .ne 37, 3) := by decide +kernel
theorem dX9_vain_10 : decode cX9_vain 10 = .ok (.aload_n 0, 1) := by decide +kernel
theorem dX9_vain_11 : decode cX9_vain 11 = .ok (.getfield 71, 3) := by decide +kernel
theorem dX9_vain_14 : decode cX9_vain 14 = .ok (.aload_n 0, 1) := by decide +kernel
theorem dX9_vain_15 : decode cX9_vain 15 = .ok (.getfield 41, 3) := by decide +kernel
theorem dX9_vain_18 : decode cX9_vain 18 = .ok (.invokevirtual 252, 3) := by decide +kernel
theorem dX9_vain_21 : decode cX9_vain 21 = .ok (.aload_n 0, 1) := by decide +kernel
theorem dX9_vain_22 : decode cX9_vain 22 = .ok (.getfield 55, 3) := by decide +kernel
theorem dX9_vain_25 : decode cX9_vain 25 = .ok (.aload_n 0, 1) := by decide +kernel
theorem dX9_vain_26 : decode cX9_vain 26 = .ok (.getfield 71, 3) := by decide +kernel
theorem dX9_vain_29 : decode cX9_vain 29 = .ok (.getfield 295, 3) := by decide +kernel
theorem dX9_vain_32 : decode cX9_vain 32 = .ok (.invokevirtual 298, 3) := by decide +kernel
theorem dX9_vain_35 : decode cX9_vain 35 = .ok (.ifCond .eq 7, 3) := by decide +kernel
theorem dX9_vain_38 : decode cX9_vain 38 = .ok (.iconst 1, 1) := by decide +kernel
theorem dX9_vain_39 : decode cX9_vain 39 = .ok (.goto 4, 3) := by decide +kernel
theorem dX9_vain_42 : decode cX9_vain 42 = .ok (.iconst 0, 1) := by decide +kernel
theorem dX9_vain_43 : decode cX9_vain 43 = .ok (.ireturn, 1) := by decide +kernel
theorem dX9_vain_44 : decode cX9_vain 44 = .ok (.aload_n 0, 1) := by decide +kernel
theorem dX9_vain_45 : decode cX9_vain 45 = .ok (.getfield 78, 3) := by decide +kernel
theorem dX9_vain_48 : decode cX9_vain 48 = .ok (.aload_n 0, 1) := by decide +kernel
theorem dX9_vain_49 : decode cX9_vain 49 = .ok (.getfield 41, 3) := by decide +kernel
theorem dX9_vain_52 : decode cX9_vain 52 = .ok (.aload_n 0, 1) := by decide +kernel
theorem dX9_vain_53 : decode cX9_vain 53 = .ok (.getfield 55, 3) := by decide +kernel
theorem dX9_vain_56 : decode cX9_vain 56 = .ok (.aload_n 0, 1) := by decide +kernel
theorem dX9_vain_57 : decode cX9_vain 57 = .ok (.getfield 71, 3) := by decide +kernel
theorem dX9_vain_60 : decode cX9_vain 60 = .ok (.invokevirtual 302, 3) := by decide +kernel
theorem dX9_vain_63 : decode cX9_vain 63 = .ok (.iload_n 1, 1) := by decide +kernel
theorem dX9_vain_64 : decode cX9_vain 64 = .ok (.ifCond .ne 13, 3) := by decide +kernel
theorem dX9_vain_67 : decode cX9_vain 67 = .ok (.aload_n 0, 1) := by decide +kernel
theorem dX9_vain_68 : decode cX9_vain 68 = .ok (.getfield 78, 3) := by decide +kernel
theorem dX9_vain_71 : decode cX9_vain 71 = .ok (.getfield 306, 3) := by decide +kernel
theorem dX9_vain_74 : decode cX9_vain 74 = .ok (.goto 10, 3) := by decide +kernel
theorem dX9_vain_77 : decode cX9_vain 77 = .ok (.aload_n 0, 1) := by decide +kernel
theorem dX9_vain_78 : decode cX9_vain 78 = .ok (.getfield 78, 3) := by decide +kernel
theorem dX9_vain_81 : decode cX9_vain 81 = .ok (.invokevirtual 307, 3) := by decide +kernel
theorem dX9_vain_84 : decode cX9_vain 84 = .ok (.ireturn, 1) := by decide +kernel
theorem dX9_ask_0 : decode cX9_ask 0 = .ok (.iload_n 1, 1) := by decide +kernel
theorem dX9_ask_1 : decode cX9_ask 1 = .ok (.iconst 1, 1) := by decide +kernel
theorem dX9_ask_2 : decode cX9_ask 2 = .ok (.invokestatic 131, 3) := by decide +kernel
theorem dX9_ask_5 : decode cX9_ask 5 = .ok (.aload_n 0, 1) := by decide +kernel
theorem dX9_ask_6 : decode cX9_ask 6 = .ok (.getfield 78, 3) := by decide +kernel
theorem dX9_ask_9 : decode cX9_ask 9 = .ok (.aload_n 0, 1) := by decide +kernel
theorem dX9_ask_10 : decode cX9_ask 10 = .ok (.getfield 41, 3) := by decide +kernel
theorem dX9_ask_13 : decode cX9_ask 13 = .ok (.aload_n 0, 1) := by decide +kernel
theorem dX9_ask_14 : decode cX9_ask 14 = .ok (.getfield 55, 3) := by decide +kernel
theorem dX9_ask_17 : decode cX9_ask 17 = .ok (.aload_n 0, 1) := by decide +kernel
theorem dX9_ask_18 : decode cX9_ask 18 = .ok (.getfield 71, 3) := by decide +kernel
theorem dX9_ask_21 : decode cX9_ask 21 = .ok (.invokevirtual 302, 3) := by decide +kernel
theorem dX9_ask_24 : decode cX9_ask 24 = .ok (.aload_n 0, 1) := by decide +kernel
theorem dX9_ask_25 : decode cX9_ask 25 = .ok (.getfield 78, 3) := by decide +kernel
theorem dX9_ask_28 : decode cX9_ask 28 = .ok (.aload_n 0, 1) := by decide +kernel
theorem dX9_ask_29 : decode cX9_ask 29 = .ok (.getfield 41, 3) := by decide +kernel
theorem dX9_ask_32 : decode cX9_ask 32 = .ok (.aload_n 0, 1) := by decide +kernel
theorem dX9_ask_33 : decode cX9_ask 33 = .ok (.getfield 71, 3) := by decide +kernel
theorem dX9_ask_36 : decode cX9_ask 36 = .ok (.invokevirtual 310, 3) := by decide +kernel
theorem dX9_ask_39 : decode cX9_ask 39 = .ok (.iload_n 1, 1) := by decide +kernel
theorem dX9_ask_40 : decode cX9_ask 40 = .ok (.ifCond .ne 13, 3) := by decide +kernel
theorem dX9_ask_43 : decode cX9_ask 43 = .ok (.aload_n 0, 1) := by decide +kernel
theorem dX9_ask_44 : decode cX9_ask 44 = .ok (.getfield 78, 3) := by decide +kernel
theorem dX9_ask_47 : decode cX9_ask 47 = .ok (.getfield 314, 3) := by decide +kernel
theorem dX9_ask_50 : decode cX9_ask 50 = .ok (.goto 10, 3) := by decide +kernel
theorem dX9_ask_53 : decode cX9_ask 53 = .ok (.aload_n 0, 1) := by decide +kernel
theorem dX9_ask_54 : decode cX9_ask 54 = .ok (.getfield 78, 3) := by decide +kernel
theorem dX9_ask_57 : decode cX9_ask 57 = .ok (.getfield 316, 3) := by decide +kernel
theorem dX9_ask_60 : decode cX9_ask 60 = .ok (.ireturn, 1) := by decide +kernel
theorem dX9_fog_0 : decode cX9_fog 0 = .ok (.aload_n 0, 1) := by decide +kernel
theorem dX9_fog_1 : decode cX9_fog 1 = .ok (.iload_n 1, 1) := by decide +kernel
theorem dX9_fog_2 : decode cX9_fog 2 = .ok (.invokevirtual 196, 3) := by decide +kernel
theorem dX9_fog_5 : decode cX9_fog 5 = .ok (.iload_n 2, 1) := by decide +kernel
theorem dX9_fog_6 : decode cX9_fog 6 = .ok (.iconst 1, 1) := by decide +kernel
theorem dX9_fog_7 : decode cX9_fog 7 = .ok (.iconst 5, 1) := by decide +kernel
theorem dX9_fog_8 : decode cX9_fog 8 = .ok (.invokestatic 244, 3) := by decide +kernel
theorem dX9_fog_11 : decode cX9_fog 11 = .ok (.iload_n 3, 1) := by decide +kernel
theorem dX9_fog_12 : decode cX9_fog 12 = .ok (.iconst 0, 1) := by decide +kernel
theorem dX9_fog_13 : decode cX9_fog 13 = .ok (.bipush 10, 2) := by decide +kernel
theorem dX9_fog_15 : decode cX9_fog 15 = .ok (.invokestatic 244, 3) := by decide +kernel
theorem dX9_fog_18 : decode cX9_fog 18 = .ok (.aload_n 0, 1) := by decide +kernel
theorem dX9_fog_19 : decode cX9_fog 19 = .ok (.getfield 71, 3) := by decide +kernel
theorem dX9_fog_22 : decode cX9_fog 22 = .ok (.aload_n 0, 1) := by decide +kernel
theorem dX9_fog_23 : decode cX9_fog 23 = .ok (.getfield 41, 3) := by decide +kernel
theorem dX9_fog_26 : decode cX9_fog 26 = .ok (.iload_n 1, 1) := by decide +kernel
theorem dX9_fog_27 : decode cX9_fog 27 = .ok (.iload_n 2, 1) := by decide +kernel
theorem dX9_fog_28 : decode cX9_fog 28 = .ok (.iload_n 3, 1) := by decide +kernel
theorem dX9_fog_29 : decode cX9_fog 29 = .ok (.invokevirtual 319, 3) := by decide +kernel
theorem dX9_fog_32 : decode cX9_fog 32 = .ok (.ireturn, 1) := by decide +kernel
theorem dX9_game_0 : decode cX9_game 0 = .ok (.aload_n 0, 1) := by decide +kernel
theorem dX9_game_1 : decode cX9_game 1 = .ok (.iload_n 1, 1) := by decide +kernel
theorem dX9_game_2 : decode cX9_game 2 = .ok (.invokevirtual 165, 3) := by decide +kernel
theorem dX9_game_5 : decode cX9_game 5 = .ok (.aload_n 0, 1) := by decide +kernel
theorem dX9_game_6 : decode cX9_game 6 = .ok (.iload_n 2, 1) := by decide +kernel
theorem dX9_game_7 : decode cX9_game 7 = .ok (.invokevirtual 165, 3) := by decide +kernel
theorem dX9_game_10 : decode cX9_game 10 = .ok (.iload_n 3, 1) := by decide +kernel
theorem dX9_game_11 : decode cX9_game 11 = .ok (.iconst 1, 1) := by decide +kernel
theorem dX9_game_12 : decode cX9_game 12 = .ok (.invokestatic 131, 3) := by decide +kernel
theorem dX9_game_15 : decode cX9_game 15 = .ok (.iload_n 1, 1) := by decide +kernel
theorem dX9_game_16 : decode cX9_game 16 = .ok (.iload_n 2, 1) := by decide +kernel
theorem dX9_game_17 : decode cX9_game 17 = .ok (.if_icmp .ne 11, 3) := by decide +kernel
theorem dX9_game_20 : decode cX9_game 20 = .ok (.new 100, 3) := by decide +kernel
theorem dX9_game_23 : decode cX9_game 23 = .ok (.dup, 1) := by decide +kernel
theorem dX9_game_24 : decode cX9_game 24 = .ok (.invokespecial 102, 3) := by decide +kernel
theorem dX9_game_27 : decode cX9_game 27 = .ok (.athrow, 1) := by decide +kernel
theorem dX9_game_28 : decode cX9_game 28 = .ok (.aload_n 0, 1) := by decide +kernel
theorem dX9_game_29 : decode cX9_game 29 = .ok (.getfield 41, 3) := by decide +kernel
theorem dX9_game_32 : decode cX9_game 32 = .ok (.iload_n 1, 1) := by decide +kernel
theorem dX9_game_33 : decode cX9_game 33 = .ok (.invokevirtual 180, 3) := by decide +kernel
theorem dX9_game_36 : decode cX9_game 36 = .ok (.ifCond .eq 14, 3) := by decide +kernel
theorem dX9_game_39 : decode cX9_game 39 = .ok (.aload_n 0, 1) := by decide +kernel
theorem dX9_game_40 : decode cX9_game 40 = .ok (.getfield 41, 3) := by decide +kernel
theorem dX9_game_43 : decode cX9_game 43 = .ok (.iload_n 2, 1) := by decide +kernel
theorem dX9_game_44 : decode cX9_game 44 = .ok (.invokevirtual 180, 3) := by decide +kernel
theorem dX9_game_47 : decode cX9_game 47 = .ok (.ifCond .ne 5, 3) := by decide +kernel
theorem dX9_game_50 : decode cX9_game 50 = .ok (.iconst (-1), 1) := by decide +kernel
theorem dX9_game_51 : decode cX9_game 51 = .ok (.ireturn, 1) := by decide +kernel
theorem dX9_game_52 : decode cX9_game 52 = .ok (.aload_n 0, 1) := by decide +kernel
theorem dX9_game_53 : decode cX9_game 53 = .ok (.getfield 71, 3) := by decide +kernel
theorem dX9_game_56 : decode cX9_game 56 = .ok (.aload_n 0, 1) := by decide +kernel
theorem dX9_game_57 : decode cX9_game 57 = .ok (.getfield 41, 3) := by decide +kernel
theorem dX9_game_60 : decode cX9_game 60 = .ok (.iload_n 1, 1) := by decide +kernel
theorem dX9_game_61 : decode cX9_game 61 = .ok (.iload_n 2, 1) := by decide +kernel
theorem dX9_game_62 : decode cX9_game 62 = .ok (.invokevirtual 323, 3) := by decide +kernel
theorem dX9_game_65 : decode cX9_game 65 = .ok (.iload_n 3, 1) := by decide +kernel
theorem dX9_game_66 : decode cX9_game 66 = .ok (.ifCond .ne 13, 3) := by decide +kernel
theorem dX9_game_69 : decode cX9_game 69 = .ok (.aload_n 0, 1) := by decide +kernel
theorem dX9_game_70 : decode cX9_game 70 = .ok (.getfield 71, 3) := by decide +kernel
theorem dX9_game_73 : decode cX9_game 73 = .ok (.invokevirtual 327, 3) := by decide +kernel
theorem dX9_game_76 : decode cX9_game 76 = .ok (.goto 10, 3) := by decide +kernel
theorem dX9_game_79 : decode cX9_game 79 = .ok (.aload_n 0, 1) := by decide +kernel
theorem dX9_game_80 : decode cX9_game 80 = .ok (.getfield 71, 3) := by decide +kernel
theorem dX9_game_83 : decode cX9_game 83 = .ok (.invokevirtual 330, 3) := by decide +kernel
theorem dX9_game_86 : decode cX9_game 86 = .ok (.ireturn, 1) := by decide +kernel
theorem dX9_years_0 : decode cX9_years 0 = .ok (.iload_n 3, 1) := by decide +kernel
theorem dX9_years_1 : decode cX9_years 1 = .ok (.iconst 2, 1) := by decide +kernel
theorem dX9_years_2 : decode cX9_years 2 = .ok (.invokestatic 131, 3) := by decide +kernel
theorem dX9_years_5 : decode cX9_years 5 = .ok (.iload_n 2, 1) := by decide +kernel
theorem dX9_years_6 : decode cX9_years 6 = .ok (.iconst 0, 1) := by decide +kernel
theorem dX9_years_7 : decode cX9_years 7 = .ok (.bipush 100, 2) := by decide +kernel
theorem dX9_years_9 : decode cX9_years 9 = .ok (.invokestatic 244, 3) := by decide +kernel
theorem dX9_years_12 : decode cX9_years 12 = .ok (.aload_n 0, 1) := by decide +kernel
theorem dX9_years_13 : decode cX9_years 13 = .ok (.getfield 71, 3) := by decide +kernel
theorem dX9_years_16 : decode cX9_years 16 = .ok (.aload_n 0, 1) := by decide +kernel
theorem dX9_years_17 : decode cX9_years 17 = .ok (.getfield 41, 3) := by decide +kernel
theorem dX9_years_20 : decode cX9_years 20 = .ok (.iload_n 1, 1) := by decide +kernel
theorem dX9_years_21 : decode cX9_years 21 = .ok (.iload_n 2, 1) := by decide +kernel
theorem dX9_years_22 : decode cX9_years 22 = .ok (.invokevirtual 333, 3) := by decide +kernel
theorem dX9_years_25 : decode cX9_years 25 = .ok (.astore 4, 2) := by decide +kernel
theorem dX9_years_27 : decode cX9_years 27 = .ok (.iload_n 3, 1) := by decide +kernel
theorem dX9_years_28 : decode cX9_years 28 = .ok (.ifCond .ne 9, 3) := by decide +kernel
theorem dX9_years_31 : decode cX9_years 31 = .ok (.aload 4, 2) := by decide +kernel
theorem dX9_years_33 : decode cX9_years 33 = .ok (.getfield 265, 3) := by decide +kernel
theorem dX9_years_36 : decode cX9_years 36 = .ok (.ireturn, 1) := by decide +kernel
theorem dX9_years_37 : decode cX9_years 37 = .ok (.iload_n 3, 1) := by decide +kernel
theorem dX9_years_38 : decode cX9_years 38 = .ok (.iconst 1, 1) := by decide +kernel
theorem dX9_years_39 : decode cX9_years 39 = .ok (.if_icmp .ne 11, 3) := by decide +kernel
theorem dX9_years_42 : decode cX9_years 42 = .ok (.aload 4, 2) := by decide +kernel
theorem dX9_years_44 : decode cX9_years 44 = .ok (.invokevirtual 158, 3) := by decide +kernel
theorem dX9_years_47 : decode cX9_years 47 = .ok (.goto 11, 3) := by decide +kernel
theorem dX9_years_50 : decode cX9_years 50 = .ok (.aload 4, 2) := by decide +kernel
theorem dX9_years_52 : decode cX9_years 52 = .ok (.invokevirtual 150, 3) := by decide +kernel
theorem dX9_years_55 : decode cX9_years 55 = .ok (.invokestatic 337, 3) := by decide +kernel
theorem dX9_years_58 : decode cX9_years 58 = .ok (.ireturn, 1) := by decide +kernel
theorem dX9_meet_0 : decode cX9_meet 0 = .ok (.aload_n 0, 1) := by decide +kernel
theorem dX9_meet_1 : decode cX9_meet 1 = .ok (.iload_n 1, 1) := by decide +kernel
theorem dX9_meet_2 : decode cX9_meet 2 = .ok (.invokevirtual 165, 3) := by decide +kernel
theorem dX9_meet_5 : decode cX9_meet 5 = .ok (.aload_n 0, 1) := by decide +kernel
theorem dX9_meet_6 : decode cX9_meet 6 = .ok (.iload_n 2, 1) := by decide +kernel
theorem dX9_meet_7 : decode cX9_meet 7 = .ok (.invokevirtual 165, 3) := by decide +kernel
theorem dX9_meet_10 : decode cX9_meet 10 = .ok (.iload_n 1, 1) := by decide +kernel
theorem dX9_meet_11 : decode cX9_meet 11 = .ok (.iload_n 2, 1) := by decide +kernel
theorem dX9_meet_12 : decode cX9_meet 12 = .ok (.if_icmp .ne 7, 3) := by decide +kernel
theorem dX9_meet_15 : decode cX9_meet 15 = .ok (.iconst (-1), 1) := by decide +kernel
theorem dX9_meet_16 : decode cX9_meet 16 = .ok (.goto 12, 3) := by decide +kernel
theorem dX9_meet_19 : decode cX9_meet 19 = .ok (.aload_n 0, 1) := by decide +kernel
theorem dX9_meet_20 : decode cX9_meet 20 = .ok (.getfield 41, 3) := by decide +kernel
theorem dX9_meet_23 : decode cX9_meet 23 = .ok (.iload_n 1, 1) := by decide +kernel
theorem dX9_meet_24 : decode cX9_meet 24 = .ok (.iload_n 2, 1) := by decide +kernel
theorem dX9_meet_25 : decode cX9_meet 25 = .ok (.invokevirtual 342, 3) := by decide +kernel
theorem dX9_meet_28 : decode cX9_meet 28 = .ok (.ireturn, 1) := by decide +kernel
theorem dX9_faced_0 : decode cX9_faced 0 = .ok (.aload_n 0, 1) := by decide +kernel
theorem dX9_faced_1 : decode cX9_faced 1 = .ok (.iload_n 1, 1) := by decide +kernel
theorem dX9_faced_2 : decode cX9_faced 2 = .ok (.invokevirtual 196, 3) := by decide +kernel
theorem dX9_faced_5 : decode cX9_faced 5 = .ok (.aload_n 0, 1) := by decide +kernel
theorem dX9_faced_6 : decode cX9_faced 6 = .ok (.getfield 41, 3) := by decide +kernel
theorem dX9_faced_9 : decode cX9_faced 9 = .ok (.getfield 208, 3) := by decide +kernel
theorem dX9_faced_12 : decode cX9_faced 12 = .ok (.iload_n 1, 1) := by decide +kernel
theorem dX9_faced_13 : decode cX9_faced 13 = .ok (.iaload, 1) := by decide +kernel
theorem dX9_faced_14 : decode cX9_faced 14 = .ok (.istore_n 2, 1) := by decide +kernel
theorem dX9_faced_15 : decode cX9_faced 15 = .ok (.aload_n 0, 1) := by decide +kernel
theorem dX9_faced_16 : decode cX9_faced 16 = .ok (.getfield 41, 3) := by decide +kernel
theorem dX9_faced_19 : decode cX9_faced 19 = .ok (.getfield 205, 3) := by decide +kernel
theorem dX9_faced_22 : decode cX9_faced 22 = .ok (.iload_n 1, 1) := by decide +kernel
theorem dX9_faced_23 : decode cX9_faced 23 = .ok (.iaload, 1) := by decide +kernel
theorem dX9_faced_24 : decode cX9_faced 24 = .ok (.istore_n 3, 1) := by decide +kernel
theorem dX9_faced_25 : decode cX9_faced 25 = .ok (.iload_n 2, 1) := by decide +kernel
theorem dX9_faced_26 : decode cX9_faced 26 = .ok (.iconst (-1), 1) := by decide +kernel
theorem dX9_faced_27 : decode cX9_faced 27 = .ok (.if_icmp .eq 15, 3) := by decide +kernel
theorem dX9_faced_30 : decode cX9_faced 30 = .ok (.aload_n 0, 1) := by decide +kernel
theorem dX9_faced_31 : decode cX9_faced 31 = .ok (.getfield 31, 3) := by decide +kernel
theorem dX9_faced_34 : decode cX9_faced 34 = .ok (.getfield 177, 3) := by decide +kernel
theorem dX9_faced_37 : decode cX9_faced 37 = .ok (.iload_n 3, 1) := by decide +kernel
theorem dX9_faced_38 : decode cX9_faced 38 = .ok (.iaload, 1) := by decide +kernel
theorem dX9_faced_39 : decode cX9_faced 39 = .ok (.ifCond .eq 5, 3) := by decide +kernel
theorem dX9_faced_42 : decode cX9_faced 42 = .ok (.iconst (-1), 1) := by decide +kernel
theorem dX9_faced_43 : decode cX9_faced 43 = .ok (.ireturn, 1) := by decide +kernel
theorem dX9_faced_44 : decode cX9_faced 44 = .ok (.aload_n 0, 1) := by decide +kernel
theorem dX9_faced_45 : decode cX9_faced 45 = .ok (.getfield 41, 3) := by decide +kernel
theorem dX9_faced_48 : decode cX9_faced 48 = .ok (.iload_n 2, 1) := by decide +kernel
theorem dX9_faced_49 : decode cX9_faced 49 = .ok (.iload_n 3, 1) := by decide +kernel
theorem dX9_faced_50 : decode cX9_faced 50 = .ok (.invokevirtual 342, 3) := by decide +kernel
theorem dX9_faced_53 : decode cX9_faced 53 = .ok (.ireturn, 1) := by decide +kernel
theorem dX9_walks_0 : decode cX9_walks 0 = .ok (.iload_n 2, 1) := by decide +kernel
theorem dX9_walks_1 : decode cX9_walks 1 = .ok (.iconst 1, 1) := by decide +kernel
theorem dX9_walks_2 : decode cX9_walks 2 = .ok (.invokestatic 131, 3) := by decide +kernel
theorem dX9_walks_5 : decode cX9_walks 5 = .ok (.iload_n 1, 1) := by decide +kernel
theorem dX9_walks_6 : decode cX9_walks 6 = .ok (.iconst 1, 1) := by decide +kernel
theorem dX9_walks_7 : decode cX9_walks 7 = .ok (.bipush 100, 2) := by decide +kernel
theorem dX9_walks_9 : decode cX9_walks 9 = .ok (.invokestatic 244, 3) := by decide +kernel
theorem dX9_walks_12 : decode cX9_walks 12 = .ok (.iload_n 2, 1) := by decide +kernel
theorem dX9_walks_13 : decode cX9_walks 13 = .ok (.ifCond .ne 18, 3) := by decide +kernel
theorem dX9_walks_16 : decode cX9_walks 16 = .ok (.aload_n 0, 1) := by decide +kernel
theorem dX9_walks_17 : decode cX9_walks 17 = .ok (.getfield 85, 3) := by decide +kernel
theorem dX9_walks_20 : decode cX9_walks 20 = .ok (.aload_n 0, 1) := by decide +kernel
theorem dX9_walks_21 : decode cX9_walks 21 = .ok (.getfield 41, 3) := by decide +kernel
theorem dX9_walks_24 : decode cX9_walks 24 = .ok (.iload_n 1, 1) := by decide +kernel
theorem dX9_walks_25 : decode cX9_walks 25 = .ok (.invokevirtual 345, 3) := by decide +kernel
theorem dX9_walks_28 : decode cX9_walks 28 = .ok (.goto 11, 3) := by decide +kernel
theorem dX9_walks_31 : decode cX9_walks 31 = .ok (.aload_n 0, 1) := by decide +kernel
theorem dX9_walks_32 : decode cX9_walks 32 = .ok (.getfield 41, 3) := by decide +kernel
theorem dX9_walks_35 : decode cX9_walks 35 = .ok (.iload_n 1, 1) := by decide +kernel
theorem dX9_walks_36 : decode cX9_walks 36 = .ok (.invokevirtual 348, 3) := by decide +kernel
theorem dX9_walks_39 : decode cX9_walks 39 = .ok (.ireturn, 1) := by decide +kernel
theorem dX9_shamed_0 : decode cX9_shamed 0 = .ok (.aload_n 0, 1) := by decide +kernel
theorem dX9_shamed_1 : decode cX9_shamed 1 = .ok (.iload_n 1, 1) := by decide +kernel
theorem dX9_shamed_2 : decode cX9_shamed 2 = .ok (.invokevirtual 165, 3) := by decide +kernel
theorem dX9_shamed_5 : decode cX9_shamed 5 = .ok (.iload_n 2, 1) := by decide +kernel
theorem dX9_shamed_6 : decode cX9_shamed 6 = .ok (.iconst 1, 1) := by decide +kernel
theorem dX9_shamed_7 : decode cX9_shamed 7 = .ok (.bipush 99, 2) := by decide +kernel
theorem dX9_shamed_9 : decode cX9_shamed 9 = .ok (.invokestatic 244, 3) := by decide +kernel
theorem dX9_shamed_12 : decode cX9_shamed 12 = .ok (.aload_n 0, 1) := by decide +kernel
theorem dX9_shamed_13 : decode cX9_shamed 13 = .ok (.getfield 71, 3) := by decide +kernel
theorem dX9_shamed_16 : decode cX9_shamed 16 = .ok (.aload_n 0, 1) := by decide +kernel
theorem dX9_shamed_17 : decode cX9_shamed 17 = .ok (.getfield 41, 3) := by decide +kernel
theorem dX9_shamed_20 : decode cX9_shamed 20 = .ok (.invokevirtual 252, 3) := by decide +kernel
theorem dX9_shamed_23 : decode cX9_shamed 23 = .ok (.aload_n 0, 1) := by decide +kernel
theorem dX9_shamed_24 : decode cX9_shamed 24 = .ok (.getfield 71, 3) := by decide +kernel
theorem dX9_shamed_27 : decode cX9_shamed 27 = .ok (.iload_n 1, 1) := by decide +kernel
theorem dX9_shamed_28 : decode cX9_shamed 28 = .ok (.iload_n 2, 1) := by decide +kernel
theorem dX9_shamed_29 : decode cX9_shamed 29 = .ok (.invokevirtual 351, 3) := by decide +kernel
theorem dX9_shamed_32 : decode cX9_shamed 32 = .ok (.ireturn, 1) := by decide +kernel
theorem dX9_has_0 : decode cX9_has 0 = .ok (.aload_n 0, 1) := by decide +kernel
theorem dX9_has_1 : decode cX9_has 1 = .ok (.iload_n 1, 1) := by decide +kernel
theorem dX9_has_2 : decode cX9_has 2 = .ok (.invokevirtual 165, 3) := by decide +kernel
theorem dX9_has_5 : decode cX9_has 5 = .ok (.iload_n 2, 1) := by decide +kernel
theorem dX9_has_6 : decode cX9_has 6 = .ok (.iconst 0, 1) := by decide +kernel
theorem dX9_has_7 : decode cX9_has 7 = .ok (.bipush 100, 2) := by decide +kernel
theorem dX9_has_9 : decode cX9_has 9 = .ok (.invokestatic 244, 3) := by decide +kernel
theorem dX9_has_12 : decode cX9_has 12 = .ok (.aload_n 0, 1) := by decide +kernel
theorem dX9_has_13 : decode cX9_has 13 = .ok (.getfield 71, 3) := by decide +kernel
theorem dX9_has_16 : decode cX9_has 16 = .ok (.aload_n 0, 1) := by decide +kernel
theorem dX9_has_17 : decode cX9_has 17 = .ok (.getfield 41, 3) := by decide +kernel
theorem dX9_has_20 : decode cX9_has 20 = .ok (.iload_n 2, 1) := by decide +kernel
theorem dX9_has_21 : decode cX9_has 21 = .ok (.invokevirtual 248, 3) := by decide +kernel
theorem dX9_has_24 : decode cX9_has 24 = .ok (.iload_n 1, 1) := by decide +kernel
theorem dX9_has_25 : decode cX9_has 25 = .ok (.invokevirtual 354, 3) := by decide +kernel
theorem dX9_has_28 : decode cX9_has 28 = .ok (.ireturn, 1) := by decide +kernel
theorem dX9_takes_0 : decode cX9_takes 0 = .ok (.aload_n 0, 1) := by decide +kernel
theorem dX9_takes_1 : decode cX9_takes 1 = .ok (.iload_n 1, 1) := by decide +kernel
theorem dX9_takes_2 : decode cX9_takes 2 = .ok (.invokevirtual 165, 3) := by decide +kernel
theorem dX9_takes_5 : decode cX9_takes 5 = .ok (.aload_n 0, 1) := by decide +kernel
theorem dX9_takes_6 : decode cX9_takes 6 = .ok (.iload_n 2, 1) := by decide +kernel
theorem dX9_takes_7 : decode cX9_takes 7 = .ok (.invokevirtual 165, 3) := by decide +kernel
theorem dX9_takes_10 : decode cX9_takes 10 = .ok (.aload_n 0, 1) := by decide +kernel
theorem dX9_takes_11 : decode cX9_takes 11 = .ok (.getfield 41, 3) := by decide +kernel
theorem dX9_takes_14 : decode cX9_takes 14 = .ok (.iload_n 1, 1) := by decide +kernel
theorem dX9_takes_15 : decode cX9_takes 15 = .ok (.invokevirtual 180, 3) := by decide +kernel
theorem dX9_takes_18 : decode cX9_takes 18 = .ok (.aload_n 0, 1) := by decide +kernel
theorem dX9_takes_19 : decode cX9_takes 19 = .ok (.getfield 41, 3) := by decide +kernel
theorem dX9_takes_22 : decode cX9_takes 22 = .ok (.iload_n 2, 1) := by decide +kernel
theorem dX9_takes_23 : decode cX9_takes 23 = .ok (.invokevirtual 354, 3) := by decide +kernel
theorem dX9_takes_26 : decode cX9_takes 26 = .ok (.iand, 1) := by decide +kernel
theorem dX9_takes_27 : decode cX9_takes 27 = .ok (.ireturn, 1) := by decide +kernel
theorem dX9_quiet_0 : decode cX9_quiet 0 = .ok (.iload_n 1, 1) := by decide +kernel
theorem dX9_quiet_1 : decode cX9_quiet 1 = .ok (.iconst 0, 1) := by decide +kernel
theorem dX9_quiet_2 : decode cX9_quiet 2 = .ok (.bipush 100, 2) := by decide +kernel
theorem dX9_quiet_4 : decode cX9_quiet 4 = .ok (.invokestatic 244, 3) := by decide +kernel
theorem dX9_quiet_7 : decode cX9_quiet 7 = .ok (.aload_n 0, 1) := by decide +kernel
theorem dX9_quiet_8 : decode cX9_quiet 8 = .ok (.getfield 71, 3) := by decide +kernel
theorem dX9_quiet_11 : decode cX9_quiet 11 = .ok (.aload_n 0, 1) := by decide +kernel
theorem dX9_quiet_12 : decode cX9_quiet 12 = .ok (.getfield 41, 3) := by decide +kernel
theorem dX9_quiet_15 : decode cX9_quiet 15 = .ok (.invokevirtual 252, 3) := by decide +kernel
theorem dX9_quiet_18 : decode cX9_quiet 18 = .ok (.aload_n 0, 1) := by decide +kernel
theorem dX9_quiet_19 : decode cX9_quiet 19 = .ok (.getfield 71, 3) := by decide +kernel
theorem dX9_quiet_22 : decode cX9_quiet 22 = .ok (.iload_n 1, 1) := by decide +kernel
theorem dX9_quiet_23 : decode cX9_quiet 23 = .ok (.invokevirtual 357, 3) := by decide +kernel
theorem dX9_quiet_26 : decode cX9_quiet 26 = .ok (.ireturn, 1) := by decide +kernel
theorem dX9_image_0 : decode cX9_image 0 = .ok (.aload_n 0, 1) := by decide +kernel
theorem dX9_image_1 : decode cX9_image 1 = .ok (.getfield 41, 3) := by decide +kernel
theorem dX9_image_4 : decode cX9_image 4 = .ok (.aload_n 0, 1) := by decide +kernel
theorem dX9_image_5 : decode cX9_image 5 = .ok (.getfield 59, 3) := by decide +kernel
theorem dX9_image_8 : decode cX9_image 8 = .ok (.iconst 0, 1) := by decide +kernel
theorem dX9_image_9 : decode cX9_image 9 = .ok (.invokevirtual 360, 3) := by decide +kernel
theorem dX9_image_12 : decode cX9_image 12 = .ok (.aload_n 0, 1) := by decide +kernel
theorem dX9_image_13 : decode cX9_image 13 = .ok (.getfield 62, 3) := by decide +kernel
theorem dX9_image_16 : decode cX9_image 16 = .ok (.aload_n 0, 1) := by decide +kernel
theorem dX9_image_17 : decode cX9_image 17 = .ok (.getfield 48, 3) := by decide +kernel
theorem dX9_image_20 : decode cX9_image 20 = .ok (.invokevirtual 364, 3) := by decide +kernel
theorem dX9_image_23 : decode cX9_image 23 = .ok (.aload_n 0, 1) := by decide +kernel
theorem dX9_image_24 : decode cX9_image 24 = .ok (.getfield 65, 3) := by decide +kernel
theorem dX9_image_27 : decode cX9_image 27 = .ok (.aload_n 0, 1) := by decide +kernel
theorem dX9_image_28 : decode cX9_image 28 = .ok (.getfield 55, 3) := by decide +kernel
theorem dX9_image_31 : decode cX9_image 31 = .ok (.invokevirtual 368, 3) := by decide +kernel
theorem dX9_image_34 : decode cX9_image 34 = .ok (.aload_n 0, 1) := by decide +kernel
theorem dX9_image_35 : decode cX9_image 35 = .ok (.iconst 1, 1) := by decide +kernel
theorem dX9_image_36 : decode cX9_image 36 = .ok (.putfield 127, 3) := by decide +kernel
theorem dX9_image_39 : decode cX9_image 39 = .ok (.return_, 1) := by decide +kernel
theorem dX9_restore_0 : decode cX9_restore 0 = .ok (.aload_n 0, 1) := by decide +kernel
theorem dX9_restore_1 : decode cX9_restore 1 = .ok (.getfield 127, 3) := by decide +kernel
theorem dX9_restore_4 : decode cX9_restore 4 = .ok (.ifCond .ne 5, 3) := by decide +kernel
theorem dX9_restore_7 : decode cX9_restore 7 = .ok (.iconst 0, 1) := by decide +kernel
theorem dX9_restore_8 : decode cX9_restore 8 = .ok (.ireturn, 1) := by decide +kernel
theorem dX9_restore_9 : decode cX9_restore 9 = .ok (.aload_n 0, 1) := by decide +kernel
theorem dX9_restore_10 : decode cX9_restore 10 = .ok (.getfield 41, 3) := by decide +kernel
theorem dX9_restore_13 : decode cX9_restore 13 = .ok (.aload_n 0, 1) := by decide +kernel
theorem dX9_restore_14 : decode cX9_restore 14 = .ok (.getfield 59, 3) := by decide +kernel
theorem dX9_restore_17 : decode cX9_restore 17 = .ok (.iconst 0, 1) := by decide +kernel
theorem dX9_restore_18 : decode cX9_restore 18 = .ok (.invokevirtual 371, 3) := by decide +kernel
theorem dX9_restore_21 : decode cX9_restore 21 = .ok (.aload_n 0, 1) := by decide +kernel
theorem dX9_restore_22 : decode cX9_restore 22 = .ok (.getfield 48, 3) := by decide +kernel
theorem dX9_restore_25 : decode cX9_restore 25 = .ok (.aload_n 0, 1) := by decide +kernel
theorem dX9_restore_26 : decode cX9_restore 26 = .ok (.getfield 62, 3) := by decide +kernel
theorem dX9_restore_29 : decode cX9_restore 29 = .ok (.invokevirtual 364, 3) := by decide +kernel
theorem dX9_restore_32 : decode cX9_restore 32 = .ok (.aload_n 0, 1) := by decide +kernel
theorem dX9_restore_33 : decode cX9_restore 33 = .ok (.getfield 55, 3) := by decide +kernel
theorem dX9_restore_36 : decode cX9_restore 36 = .ok (.aload_n 0, 1) := by decide +kernel
theorem dX9_restore_37 : decode cX9_restore 37 = .ok (.getfield 65, 3) := by decide +kernel
theorem dX9_restore_40 : decode cX9_restore 40 = .ok (.invokevirtual 368, 3) := by decide +kernel
theorem dX9_restore_43 : decode cX9_restore 43 = .ok (.iconst 1, 1) := by decide +kernel
theorem dX9_restore_44 : decode cX9_restore 44 = .ok (.ireturn, 1) := by decide +kernel
theorem dX9_putBytes_0 : decode cX9_putBytes 0 = .ok (.bipush 24, 2) := by decide +kernel
theorem dX9_putBytes_2 : decode cX9_putBytes 2 = .ok (.istore_n 2, 1) := by decide +kernel
theorem dX9_putBytes_3 : decode cX9_putBytes 3 = .ok (.iload_n 2, 1) := by decide +kernel
theorem dX9_putBytes_4 : decode cX9_putBytes 4 = .ok (.ifCond .lt 42, 3) := by decide +kernel
theorem dX9_putBytes_7 : decode cX9_putBytes 7 = .ok (.aload_n 0, 1) := by decide +kernel
theorem dX9_putBytes_8 : decode cX9_putBytes 8 = .ok (.getfield 93, 3) := by decide +kernel
theorem dX9_putBytes_11 : decode cX9_putBytes 11 = .ok (.sipush 700, 3) := by decide +kernel
theorem dX9_putBytes_14 : decode cX9_putBytes 14 = .ok (.if_icmp .ge 26, 3) := by decide +kernel
theorem dX9_putBytes_17 : decode cX9_putBytes 17 = .ok (.aload_n 0, 1) := by decide +kernel
theorem dX9_putBytes_18 : decode cX9_putBytes 18 = .ok (.getfield 9, 3) := by decide +kernel
theorem dX9_putBytes_21 : decode cX9_putBytes 21 = .ok (.aload_n 0, 1) := by decide +kernel
theorem dX9_putBytes_22 : decode cX9_putBytes 22 = .ok (.getfield 93, 3) := by decide +kernel
theorem dX9_putBytes_25 : decode cX9_putBytes 25 = .ok (.iload_n 1, 1) := by decide +kernel
theorem dX9_putBytes_26 : decode cX9_putBytes 26 = .ok (.iload_n 2, 1) := by decide +kernel
theorem dX9_putBytes_27 : decode cX9_putBytes 27 = .ok (.iushr, 1) := by decide +kernel
theorem dX9_putBytes_28 : decode cX9_putBytes 28 = .ok (.i2b, 1) := by decide +kernel
theorem dX9_putBytes_29 : decode cX9_putBytes 29 = .ok (.bastore, 1) := by decide +kernel
theorem dX9_putBytes_30 : decode cX9_putBytes 30 = .ok (.aload_n 0, 1) := by decide +kernel
theorem dX9_putBytes_31 : decode cX9_putBytes 31 = .ok (.dup, 1) := by decide +kernel
theorem dX9_putBytes_32 : decode cX9_putBytes 32 = .ok (.getfield 93, 3) := by decide +kernel
theorem dX9_putBytes_35 : decode cX9_putBytes 35 = .ok (.iconst 1, 1) := by decide +kernel
theorem dX9_putBytes_36 : decode cX9_putBytes 36 = .ok (.iadd, 1) := by decide +kernel
theorem dX9_putBytes_37 : decode cX9_putBytes 37 = .ok (.putfield 93, 3) := by decide +kernel
theorem dX9_putBytes_40 : decode cX9_putBytes 40 = .ok (.iinc 2 (-8), 3) := by decide +kernel
theorem dX9_putBytes_43 : decode cX9_putBytes 43 = .ok (.goto (-40), 3) := by decide +kernel
theorem dX9_putBytes_46 : decode cX9_putBytes 46 = .ok (.return_, 1) := by decide +kernel
theorem dX9_refuse_0 : decode cX9_refuse 0 = .ok (.aload_n 0, 1) := by decide +kernel
theorem dX9_refuse_1 : decode cX9_refuse 1 = .ok (.getfield 17, 3) := by decide +kernel
theorem dX9_refuse_4 : decode cX9_refuse 4 = .ok (.iload_n 1, 1) := by decide +kernel
theorem dX9_refuse_5 : decode cX9_refuse 5 = .ok (.dup2, 1) := by decide +kernel
theorem dX9_refuse_6 : decode cX9_refuse 6 = .ok (.iaload, 1) := by decide +kernel
theorem dX9_refuse_7 : decode cX9_refuse 7 = .ok (.iconst 1, 1) := by decide +kernel
theorem dX9_refuse_8 : decode cX9_refuse 8 = .ok (.iadd, 1) := by decide +kernel
theorem dX9_refuse_9 : decode cX9_refuse 9 = .ok (.iastore, 1) := by decide +kernel
theorem dX9_refuse_10 : decode cX9_refuse 10 = .ok (.iload_n 2, 1) := by decide +kernel
theorem dX9_refuse_11 : decode cX9_refuse 11 = .ok (.ireturn, 1) := by decide +kernel
theorem dX9_needPerson_0 : decode cX9_needPerson 0 = .ok (.iload_n 1, 1) := by decide +kernel
theorem dX9_needPerson_1 : decode cX9_needPerson 1 = .ok (.ifCond .lt 14, 3) := by decide +kernel
theorem dX9_needPerson_4 : decode cX9_needPerson 4 = .ok (.iload_n 1, 1) := by decide +kernel
theorem dX9_needPerson_5 : decode cX9_needPerson 5 = .ok (.aload_n 0, 1) := by decide +kernel
theorem dX9_needPerson_6 : decode cX9_needPerson 6 = .ok (.getfield 31, 3) := by decide +kernel
theorem dX9_needPerson_9 : decode cX9_needPerson 9 = .ok (.getfield 138, 3) := by decide +kernel
theorem dX9_needPerson_12 : decode cX9_needPerson 12 = .ok (.if_icmp .lt 11, 3) := by decide +kernel
theorem dX9_needPerson_15 : decode cX9_needPerson 15 = .ok (.new 235, 3) := by decide +kernel
theorem dX9_needPerson_18 : decode cX9_needPerson 18 = .ok (.dup, 1) := by decide +kernel
theorem dX9_needPerson_19 : decode cX9_needPerson 19 = .ok (.invokespecial 237, 3) := by decide +kernel
theorem dX9_needPerson_22 : decode cX9_needPerson 22 = .ok (.athrow, 1) := by decide +kernel
theorem dX9_needPerson_23 : decode cX9_needPerson 23 = .ok (.return_, 1) := by decide +kernel
theorem dX9_needThing_0 : decode cX9_needThing 0 = .ok (.iload_n 1, 1) := by decide +kernel
theorem dX9_needThing_1 : decode cX9_needThing 1 = .ok (.ifCond .lt 14, 3) := by decide +kernel
theorem dX9_needThing_4 : decode cX9_needThing 4 = .ok (.iload_n 1, 1) := by decide +kernel
theorem dX9_needThing_5 : decode cX9_needThing 5 = .ok (.aload_n 0, 1) := by decide +kernel
theorem dX9_needThing_6 : decode cX9_needThing 6 = .ok (.getfield 31, 3) := by decide +kernel
theorem dX9_needThing_9 : decode cX9_needThing 9 = .ok (.getfield 141, 3) := by decide +kernel
theorem dX9_needThing_12 : decode cX9_needThing 12 = .ok (.if_icmp .lt 11, 3) := by decide +kernel
theorem dX9_needThing_15 : decode cX9_needThing 15 = .ok (.new 235, 3) := by decide +kernel
theorem dX9_needThing_18 : decode cX9_needThing 18 = .ok (.dup, 1) := by decide +kernel
theorem dX9_needThing_19 : decode cX9_needThing 19 = .ok (.invokespecial 237, 3) := by decide +kernel
theorem dX9_needThing_22 : decode cX9_needThing 22 = .ok (.athrow, 1) := by decide +kernel
theorem dX9_needThing_23 : decode cX9_needThing 23 = .ok (.return_, 1) := by decide +kernel
theorem dX9_needWhat_0 : decode cX9_needWhat 0 = .ok (.iload_n 0, 1) := by decide +kernel
theorem dX9_needWhat_1 : decode cX9_needWhat 1 = .ok (.ifCond .lt 8, 3) := by decide +kernel
theorem dX9_needWhat_4 : decode cX9_needWhat 4 = .ok (.iload_n 0, 1) := by decide +kernel
theorem dX9_needWhat_5 : decode cX9_needWhat 5 = .ok (.iload_n 1, 1) := by decide +kernel
theorem dX9_needWhat_6 : decode cX9_needWhat 6 = .ok (.if_icmp .le 11, 3) := by decide +kernel
theorem dX9_needWhat_9 : decode cX9_needWhat 9 = .ok (.new 235, 3) := by decide +kernel
theorem dX9_needWhat_12 : decode cX9_needWhat 12 = .ok (.dup, 1) := by decide +kernel
theorem dX9_needWhat_13 : decode cX9_needWhat 13 = .ok (.invokespecial 237, 3) := by decide +kernel
theorem dX9_needWhat_16 : decode cX9_needWhat 16 = .ok (.athrow, 1) := by decide +kernel
theorem dX9_needWhat_17 : decode cX9_needWhat 17 = .ok (.return_, 1) := by decide +kernel
theorem dX9_needWithin_0 : decode cX9_needWithin 0 = .ok (.iload_n 0, 1) := by decide +kernel
theorem dX9_needWithin_1 : decode cX9_needWithin 1 = .ok (.iload_n 1, 1) := by decide +kernel
theorem dX9_needWithin_2 : decode cX9_needWithin 2 = .ok (.if_icmp .lt 8, 3) := by decide +kernel
theorem dX9_needWithin_5 : decode cX9_needWithin 5 = .ok (.iload_n 0, 1) := by decide +kernel
theorem dX9_needWithin_6 : decode cX9_needWithin 6 = .ok (.iload_n 2, 1) := by decide +kernel
theorem dX9_needWithin_7 : decode cX9_needWithin 7 = .ok (.if_icmp .le 11, 3) := by decide +kernel
theorem dX9_needWithin_10 : decode cX9_needWithin 10 = .ok (.new 100, 3) := by decide +kernel
theorem dX9_needWithin_13 : decode cX9_needWithin 13 = .ok (.dup, 1) := by decide +kernel
theorem dX9_needWithin_14 : decode cX9_needWithin 14 = .ok (.invokespecial 102, 3) := by decide +kernel
theorem dX9_needWithin_17 : decode cX9_needWithin 17 = .ok (.athrow, 1) := by decide +kernel
theorem dX9_needWithin_18 : decode cX9_needWithin 18 = .ok (.return_, 1) := by decide +kernel
