theorem dX0_init_0 : decode cX0_init 0 = .ok (.aload_n 0, 1) := by decide +kernel
theorem dX0_init_1 : decode cX0_init 1 = .ok (.invokespecial 3, 3) := by decide +kernel
theorem dX0_init_4 : decode cX0_init 4 = .ok (.aload_n 0, 1) := by decide +kernel
theorem dX0_init_5 : decode cX0_init 5 = .ok (.sipush 760, 3) := by decide +kernel
theorem dX0_init_8 : decode cX0_init 8 = .ok (.newarray .int, 2) := by decide +kernel
theorem dX0_init_10 : decode cX0_init 10 = .ok (.putfield 13, 3) := by decide +kernel
theorem dX0_init_13 : decode cX0_init 13 = .ok (.return_, 1) := by decide +kernel
theorem dX0_clear_0 : decode cX0_clear 0 = .ok (.aload_n 0, 1) := by decide +kernel
theorem dX0_clear_1 : decode cX0_clear 1 = .ok (.iconst 0, 1) := by decide +kernel
theorem dX0_clear_2 : decode cX0_clear 2 = .ok (.putfield 17, 3) := by decide +kernel
theorem dX0_clear_5 : decode cX0_clear 5 = .ok (.aload_n 0, 1) := by decide +kernel
theorem dX0_clear_6 : decode cX0_clear 6 = .ok (.iconst 0, 1) := by decide +kernel
theorem dX0_clear_7 : decode cX0_clear 7 = .ok (.putfield 21, 3) := by decide +kernel
theorem dX0_clear_10 : decode cX0_clear 10 = .ok (.return_, 1) := by decide +kernel
theorem dX0_copyFrom_0 : decode cX0_copyFrom 0 = .ok (.aload_n 1, 1) := by decide +kernel
theorem dX0_copyFrom_1 : decode cX0_copyFrom 1 = .ok (.getfield 13, 3) := by decide +kernel
theorem dX0_copyFrom_4 : decode cX0_copyFrom 4 = .ok (.iconst 0, 1) := by decide +kernel
theorem dX0_copyFrom_5 : decode cX0_copyFrom 5 = .ok (.aload_n 0, 1) := by decide +kernel
theorem dX0_copyFrom_6 : decode cX0_copyFrom 6 = .ok (.getfield 13, 3) := by decide +kernel
theorem dX0_copyFrom_9 : decode cX0_copyFrom 9 = .ok (.iconst 0, 1) := by decide +kernel
theorem dX0_copyFrom_10 : decode cX0_copyFrom 10 = .ok (.aload_n 0, 1) := by decide +kernel
theorem dX0_copyFrom_11 : decode cX0_copyFrom 11 = .ok (.getfield 13, 3) := by decide +kernel
theorem dX0_copyFrom_14 : decode cX0_copyFrom 14 = .ok (.arraylength, 1) := by decide +kernel
theorem dX0_copyFrom_15 : decode cX0_copyFrom 15 = .ok (.invokestatic 24, 3) := by decide +kernel
theorem dX0_copyFrom_18 : decode cX0_copyFrom 18 = .ok (.aload_n 0, 1) := by decide +kernel
theorem dX0_copyFrom_19 : decode cX0_copyFrom 19 = .ok (.aload_n 1, 1) := by decide +kernel
theorem dX0_copyFrom_20 : decode cX0_copyFrom 20 = .ok (.getfield 17, 3) := by decide +kernel
theorem dX0_copyFrom_23 : decode cX0_copyFrom 23 = .ok (.putfield 17, 3) := by decide +kernel
theorem dX0_copyFrom_26 : decode cX0_copyFrom 26 = .ok (.aload_n 0, 1) := by decide +kernel
theorem dX0_copyFrom_27 : decode cX0_copyFrom 27 = .ok (.aload_n 1, 1) := by decide +kernel
theorem dX0_copyFrom_28 : decode cX0_copyFrom 28 = .ok (.getfield 21, 3) := by decide +kernel
theorem dX0_copyFrom_31 : decode cX0_copyFrom 31 = .ok (.putfield 21, 3) := by decide +kernel
theorem dX0_copyFrom_34 : decode cX0_copyFrom 34 = .ok (.return_, 1) := by decide +kernel
theorem dX0_keep_0 : decode cX0_keep 0 = .ok (.aload_n 1, 1) := by decide +kernel
theorem dX0_keep_1 : decode cX0_keep 1 = .ok (.aload_n 0, 1) := by decide +kernel
theorem dX0_keep_2 : decode cX0_keep 2 = .ok (.getfield 13, 3) := by decide +kernel
theorem dX0_keep_5 : decode cX0_keep 5 = .ok (.aload_n 0, 1) := by decide +kernel
theorem dX0_keep_6 : decode cX0_keep 6 = .ok (.getfield 17, 3) := by decide +kernel
theorem dX0_keep_9 : decode cX0_keep 9 = .ok (.aload_n 0, 1) := by decide +kernel
theorem dX0_keep_10 : decode cX0_keep 10 = .ok (.getfield 21, 3) := by decide +kernel
theorem dX0_keep_13 : decode cX0_keep 13 = .ok (.iadd, 1) := by decide +kernel
theorem dX0_keep_14 : decode cX0_keep 14 = .ok (.bipush 40, 2) := by decide +kernel
theorem dX0_keep_16 : decode cX0_keep 16 = .ok (.irem, 1) := by decide +kernel
theorem dX0_keep_17 : decode cX0_keep 17 = .ok (.bipush 19, 2) := by decide +kernel
theorem dX0_keep_19 : decode cX0_keep 19 = .ok (.imul, 1) := by decide +kernel
theorem dX0_keep_20 : decode cX0_keep 20 = .ok (.invokevirtual 30, 3) := by decide +kernel
theorem dX0_keep_23 : decode cX0_keep 23 = .ok (.aload_n 0, 1) := by decide +kernel
theorem dX0_keep_24 : decode cX0_keep 24 = .ok (.getfield 21, 3) := by decide +kernel
theorem dX0_keep_27 : decode cX0_keep 27 = .ok (.bipush 40, 2) := by decide +kernel
theorem dX0_keep_29 : decode cX0_keep 29 = .ok (.if_icmp .ge 16, 3) := by decide +kernel
theorem dX0_keep_32 : decode cX0_keep 32 = .ok (.aload_n 0, 1) := by decide +kernel
theorem dX0_keep_33 : decode cX0_keep 33 = .ok (.dup, 1) := by decide +kernel
theorem dX0_keep_34 : decode cX0_keep 34 = .ok (.getfield 21, 3) := by decide +kernel
theorem dX0_keep_37 : decode cX0_keep 37 = .ok (.iconst 1, 1) := by decide +kernel
theorem dX0_keep_38 : decode cX0_keep 38 = .ok (.iadd, 1) := by decide +kernel
theorem dX0_keep_39 : decode cX0_keep 39 = .ok (.putfield 21, 3) := by decide +kernel
theorem dX0_keep_42 : decode cX0_keep 42 = .ok (.goto 16, 3) := by decide +kernel
theorem dX0_keep_45 : decode cX0_keep 45 = .ok (.aload_n 0, 1) := by decide +kernel
theorem dX0_keep_46 : decode cX0_keep 46 = .ok (.aload_n 0, 1) := by decide +kernel
theorem dX0_keep_47 : decode cX0_keep 47 = .ok (.getfield 17, 3) := by decide +kernel
theorem dX0_keep_50 : decode cX0_keep 50 = .ok (.iconst 1, 1) := by decide +kernel
theorem dX0_keep_51 : decode cX0_keep 51 = .ok (.iadd, 1) := by decide +kernel
theorem dX0_keep_52 : decode cX0_keep 52 = .ok (.bipush 40, 2) := by decide +kernel
theorem dX0_keep_54 : decode cX0_keep 54 = .ok (.irem, 1) := by decide +kernel
theorem dX0_keep_55 : decode cX0_keep 55 = .ok (.putfield 17, 3) := by decide +kernel
theorem dX0_keep_58 : decode cX0_keep 58 = .ok (.return_, 1) := by decide +kernel
theorem dX0_takeBack_0 : decode cX0_takeBack 0 = .ok (.aload_n 0, 1) := by decide +kernel
theorem dX0_takeBack_1 : decode cX0_takeBack 1 = .ok (.getfield 21, 3) := by decide +kernel
theorem dX0_takeBack_4 : decode cX0_takeBack 4 = .ok (.iconst 1, 1) := by decide +kernel
theorem dX0_takeBack_5 : decode cX0_takeBack 5 = .ok (.if_icmp .ge 5, 3) := by decide +kernel
theorem dX0_takeBack_8 : decode cX0_takeBack 8 = .ok (.iconst (-1), 1) := by decide +kernel
theorem dX0_takeBack_9 : decode cX0_takeBack 9 = .ok (.ireturn, 1) := by decide +kernel
theorem dX0_takeBack_10 : decode cX0_takeBack 10 = .ok (.aload_n 0, 1) := by decide +kernel
theorem dX0_takeBack_11 : decode cX0_takeBack 11 = .ok (.dup, 1) := by decide +kernel
theorem dX0_takeBack_12 : decode cX0_takeBack 12 = .ok (.getfield 21, 3) := by decide +kernel
theorem dX0_takeBack_15 : decode cX0_takeBack 15 = .ok (.iconst 1, 1) := by decide +kernel
theorem dX0_takeBack_16 : decode cX0_takeBack 16 = .ok (.isub, 1) := by decide +kernel
theorem dX0_takeBack_17 : decode cX0_takeBack 17 = .ok (.putfield 21, 3) := by decide +kernel
theorem dX0_takeBack_20 : decode cX0_takeBack 20 = .ok (.aload_n 1, 1) := by decide +kernel
theorem dX0_takeBack_21 : decode cX0_takeBack 21 = .ok (.aload_n 0, 1) := by decide +kernel
theorem dX0_takeBack_22 : decode cX0_takeBack 22 = .ok (.getfield 13, 3) := by decide +kernel
theorem dX0_takeBack_25 : decode cX0_takeBack 25 = .ok (.aload_n 0, 1) := by decide +kernel
theorem dX0_takeBack_26 : decode cX0_takeBack 26 = .ok (.getfield 17, 3) := by decide +kernel
theorem dX0_takeBack_29 : decode cX0_takeBack 29 = .ok (.aload_n 0, 1) := by decide +kernel
theorem dX0_takeBack_30 : decode cX0_takeBack 30 = .ok (.getfield 21, 3) := by decide +kernel
theorem dX0_takeBack_33 : decode cX0_takeBack 33 = .ok (.iadd, 1) := by decide +kernel
theorem dX0_takeBack_34 : decode cX0_takeBack 34 = .ok (.bipush 40, 2) := by decide +kernel
theorem dX0_takeBack_36 : decode cX0_takeBack 36 = .ok (.irem, 1) := by decide +kernel
theorem dX0_takeBack_37 : decode cX0_takeBack 37 = .ok (.bipush 19, 2) := by decide +kernel
theorem dX0_takeBack_39 : decode cX0_takeBack 39 = .ok (.imul, 1) := by decide +kernel
theorem dX0_takeBack_40 : decode cX0_takeBack 40 = .ok (.invokevirtual 34, 3) := by decide +kernel
theorem dX0_takeBack_43 : decode cX0_takeBack 43 = .ok (.aload_n 0, 1) := by decide +kernel
theorem dX0_takeBack_44 : decode cX0_takeBack 44 = .ok (.getfield 21, 3) := by decide +kernel
theorem dX0_takeBack_47 : decode cX0_takeBack 47 = .ok (.ireturn, 1) := by decide +kernel
theorem dX1_init_0 : decode cX1_init 0 = .ok (.aload_n 0, 1) := by decide +kernel
theorem dX1_init_1 : decode cX1_init 1 = .ok (.invokespecial 3, 3) := by decide +kernel
theorem dX1_init_4 : decode cX1_init 4 = .ok (.aload_n 0, 1) := by decide +kernel
theorem dX1_init_5 : decode cX1_init 5 = .ok (.bipush 8, 2) := by decide +kernel
theorem dX1_init_7 : decode cX1_init 7 = .ok (.newarray .int, 2) := by decide +kernel
theorem dX1_init_9 : decode cX1_init 9 = .ok (.putfield 9, 3) := by decide +kernel
theorem dX1_init_12 : decode cX1_init 12 = .ok (.aload_n 0, 1) := by decide +kernel
theorem dX1_init_13 : decode cX1_init 13 = .ok (.bipush 8, 2) := by decide +kernel
theorem dX1_init_15 : decode cX1_init 15 = .ok (.newarray .int, 2) := by decide +kernel
theorem dX1_init_17 : decode cX1_init 17 = .ok (.putfield 15, 3) := by decide +kernel
theorem dX1_init_20 : decode cX1_init 20 = .ok (.aload_n 0, 1) := by decide +kernel
theorem dX1_init_21 : decode cX1_init 21 = .ok (.bipush 8, 2) := by decide +kernel
theorem dX1_init_23 : decode cX1_init 23 = .ok (.newarray .int, 2) := by decide +kernel
theorem dX1_init_25 : decode cX1_init 25 = .ok (.putfield 18, 3) := by decide +kernel
theorem dX1_init_28 : decode cX1_init 28 = .ok (.aload_n 0, 1) := by decide +kernel
theorem dX1_init_29 : decode cX1_init 29 = .ok (.bipush 48, 2) := by decide +kernel
theorem dX1_init_31 : decode cX1_init 31 = .ok (.newarray .int, 2) := by decide +kernel
theorem dX1_init_33 : decode cX1_init 33 = .ok (.putfield 21, 3) := by decide +kernel
theorem dX1_init_36 : decode cX1_init 36 = .ok (.aload_n 0, 1) := by decide +kernel
theorem dX1_init_37 : decode cX1_init 37 = .ok (.bipush 10, 2) := by decide +kernel
theorem dX1_init_39 : decode cX1_init 39 = .ok (.newarray .int, 2) := by decide +kernel
theorem dX1_init_41 : decode cX1_init 41 = .ok (.putfield 24, 3) := by decide +kernel
theorem dX1_init_44 : decode cX1_init 44 = .ok (.aload_n 0, 1) := by decide +kernel
theorem dX1_init_45 : decode cX1_init 45 = .ok (.bipush 10, 2) := by decide +kernel
theorem dX1_init_47 : decode cX1_init 47 = .ok (.newarray .int, 2) := by decide +kernel
theorem dX1_init_49 : decode cX1_init 49 = .ok (.putfield 27, 3) := by decide +kernel
theorem dX1_init_52 : decode cX1_init 52 = .ok (.aload_n 0, 1) := by decide +kernel
theorem dX1_init_53 : decode cX1_init 53 = .ok (.bipush 10, 2) := by decide +kernel
theorem dX1_init_55 : decode cX1_init 55 = .ok (.newarray .int, 2) := by decide +kernel
theorem dX1_init_57 : decode cX1_init 57 = .ok (.putfield 30, 3) := by decide +kernel
theorem dX1_init_60 : decode cX1_init 60 = .ok (.aload_n 0, 1) := by decide +kernel
theorem dX1_init_61 : decode cX1_init 61 = .ok (.bipush 10, 2) := by decide +kernel
theorem dX1_init_63 : decode cX1_init 63 = .ok (.newarray .int, 2) := by decide +kernel
theorem dX1_init_65 : decode cX1_init 65 = .ok (.putfield 33, 3) := by decide +kernel
theorem dX1_init_68 : decode cX1_init 68 = .ok (.aload_n 0, 1) := by decide +kernel
theorem dX1_init_69 : decode cX1_init 69 = .ok (.sipush 700, 3) := by decide +kernel
theorem dX1_init_72 : decode cX1_init 72 = .ok (.newarray .int, 2) := by decide +kernel
theorem dX1_init_74 : decode cX1_init 74 = .ok (.putfield 36, 3) := by decide +kernel
theorem dX1_init_77 : decode cX1_init 77 = .ok (.aload_n 0, 1) := by decide +kernel
theorem dX1_init_78 : decode cX1_init 78 = .ok (.new 39, 3) := by decide +kernel
theorem dX1_init_81 : decode cX1_init 81 = .ok (.dup, 1) := by decide +kernel
theorem dX1_init_82 : decode cX1_init 82 = .ok (.invokespecial 41, 3) := by decide +kernel
theorem dX1_init_85 : decode cX1_init 85 = .ok (.putfield 42, 3) := by decide +kernel
theorem dX1_init_88 : decode cX1_init 88 = .ok (.aload_n 0, 1) := by decide +kernel
theorem dX1_init_89 : decode cX1_init 89 = .ok (.new 39, 3) := by decide +kernel
theorem dX1_init_92 : decode cX1_init 92 = .ok (.dup, 1) := by decide +kernel
theorem dX1_init_93 : decode cX1_init 93 = .ok (.invokespecial 41, 3) := by decide +kernel
theorem dX1_init_96 : decode cX1_init 96 = .ok (.putfield 46, 3) := by decide +kernel
theorem dX1_init_99 : decode cX1_init 99 = .ok (.aload_n 0, 1) := by decide +kernel
theorem dX1_init_100 : decode cX1_init 100 = .ok (.invokevirtual 49, 3) := by decide +kernel
theorem dX1_init_103 : decode cX1_init 103 = .ok (.return_, 1) := by decide +kernel
theorem dX1_clear_0 : decode cX1_clear 0 = .ok (.aload_n 0, 1) := by decide +kernel
theorem dX1_clear_1 : decode cX1_clear 1 = .ok (.iconst 3, 1) := by decide +kernel
theorem dX1_clear_2 : decode cX1_clear 2 = .ok (.putfield 52, 3) := by decide +kernel
theorem dX1_clear_5 : decode cX1_clear 5 = .ok (.aload_n 0, 1) := by decide +kernel
theorem dX1_clear_6 : decode cX1_clear 6 = .ok (.iconst 0, 1) := by decide +kernel
theorem dX1_clear_7 : decode cX1_clear 7 = .ok (.putfield 56, 3) := by decide +kernel
theorem dX1_clear_10 : decode cX1_clear 10 = .ok (.aload_n 0, 1) := by decide +kernel
theorem dX1_clear_11 : decode cX1_clear 11 = .ok (.iconst 0, 1) := by decide +kernel
theorem dX1_clear_12 : decode cX1_clear 12 = .ok (.putfield 59, 3) := by decide +kernel
theorem dX1_clear_15 : decode cX1_clear 15 = .ok (.aload_n 0, 1) := by decide +kernel
theorem dX1_clear_16 : decode cX1_clear 16 = .ok (.bipush 10, 2) := by decide +kernel
theorem dX1_clear_18 : decode cX1_clear 18 = .ok (.putfield 62, 3) := by decide +kernel
theorem dX1_clear_21 : decode cX1_clear 21 = .ok (.aload_n 0, 1) := by decide +kernel
theorem dX1_clear_22 : decode cX1_clear 22 = .ok (.getfield 9, 3) := by decide +kernel
theorem dX1_clear_25 : decode cX1_clear 25 = .ok (.iconst 0, 1) := by decide +kernel
theorem dX1_clear_26 : decode cX1_clear 26 = .ok (.invokestatic 65, 3) := by decide +kernel
theorem dX1_clear_29 : decode cX1_clear 29 = .ok (.aload_n 0, 1) := by decide +kernel
theorem dX1_clear_30 : decode cX1_clear 30 = .ok (.getfield 15, 3) := by decide +kernel
theorem dX1_clear_33 : decode cX1_clear 33 = .ok (.iconst 0, 1) := by decide +kernel
theorem dX1_clear_34 : decode cX1_clear 34 = .ok (.invokestatic 65, 3) := by decide +kernel
theorem dX1_clear_37 : decode cX1_clear 37 = .ok (.aload_n 0, 1) := by decide +kernel
theorem dX1_clear_38 : decode cX1_clear 38 = .ok (.getfield 18, 3) := by decide +kernel
theorem dX1_clear_41 : decode cX1_clear 41 = .ok (.iconst 0, 1) := by decide +kernel
theorem dX1_clear_42 : decode cX1_clear 42 = .ok (.invokestatic 65, 3) := by decide +kernel
theorem dX1_clear_45 : decode cX1_clear 45 = .ok (.aload_n 0, 1) := by decide +kernel
theorem dX1_clear_46 : decode cX1_clear 46 = .ok (.getfield 21, 3) := by decide +kernel
theorem dX1_clear_49 : decode cX1_clear 49 = .ok (.iconst 0, 1) := by decide +kernel
theorem dX1_clear_50 : decode cX1_clear 50 = .ok (.invokestatic 65, 3) := by decide +kernel
theorem dX1_clear_53 : decode cX1_clear 53 = .ok (.aload_n 0, 1) := by decide +kernel
theorem dX1_clear_54 : decode cX1_clear 54 = .ok (.getfield 24, 3) := by decide +kernel
theorem dX1_clear_57 : decode cX1_clear 57 = .ok (.iconst 0, 1) := by decide +kernel
theorem dX1_clear_58 : decode cX1_clear 58 = .ok (.invokestatic 65, 3) := by decide +kernel
theorem dX1_clear_61 : decode cX1_clear 61 = .ok (.aload_n 0, 1) := by decide +kernel
theorem dX1_clear_62 : decode cX1_clear 62 = .ok (.getfield 27, 3) := by decide +kernel
theorem dX1_clear_65 : decode cX1_clear 65 = .ok (.iconst 0, 1) := by decide +kernel
theorem dX1_clear_66 : decode cX1_clear 66 = .ok (.invokestatic 65, 3) := by decide +kernel
theorem dX1_clear_69 : decode cX1_clear 69 = .ok (.aload_n 0, 1) := by decide +kernel
theorem dX1_clear_70 : decode cX1_clear 70 = .ok (.getfield 30, 3) := by decide +kernel
theorem dX1_clear_73 : decode cX1_clear 73 = .ok (.iconst 0, 1) := by decide +kernel
theorem dX1_clear_74 : decode cX1_clear 74 = .ok (.invokestatic 65, 3) := by decide +kernel
theorem dX1_clear_77 : decode cX1_clear 77 = .ok (.aload_n 0, 1) := by decide +kernel
theorem dX1_clear_78 : decode cX1_clear 78 = .ok (.getfield 33, 3) := by decide +kernel
theorem dX1_clear_81 : decode cX1_clear 81 = .ok (.iconst (-1), 1) := by decide +kernel
theorem dX1_clear_82 : decode cX1_clear 82 = .ok (.invokestatic 65, 3) := by decide +kernel
theorem dX1_clear_85 : decode cX1_clear 85 = .ok (.aload_n 0, 1) := by decide +kernel
theorem dX1_clear_86 : decode cX1_clear 86 = .ok (.iconst 0, 1) := by decide +kernel
theorem dX1_clear_87 : decode cX1_clear 87 = .ok (.putfield 71, 3) := by decide +kernel
theorem dX1_clear_90 : decode cX1_clear 90 = .ok (.aload_n 0, 1) := by decide +kernel
theorem dX1_clear_91 : decode cX1_clear 91 = .ok (.getfield 42, 3) := by decide +kernel
theorem dX1_clear_94 : decode cX1_clear 94 = .ok (.iconst 0, 1) := by decide +kernel
theorem dX1_clear_95 : decode cX1_clear 95 = .ok (.putfield 74, 3) := by decide +kernel
theorem dX1_clear_98 : decode cX1_clear 98 = .ok (.aload_n 0, 1) := by decide +kernel
theorem dX1_clear_99 : decode cX1_clear 99 = .ok (.getfield 42, 3) := by decide +kernel
theorem dX1_clear_102 : decode cX1_clear 102 = .ok (.iconst 0, 1) := by decide +kernel
theorem dX1_clear_103 : decode cX1_clear 103 = .ok (.putfield 77, 3) := by decide +kernel
theorem dX1_clear_106 : decode cX1_clear 106 = .ok (.aload_n 0, 1) := by decide +kernel
theorem dX1_clear_107 : decode cX1_clear 107 = .ok (.getfield 46, 3) := by decide +kernel
theorem dX1_clear_110 : decode cX1_clear 110 = .ok (.iconst 0, 1) := by decide +kernel
theorem dX1_clear_111 : decode cX1_clear 111 = .ok (.putfield 74, 3) := by decide +kernel
theorem dX1_clear_114 : decode cX1_clear 114 = .ok (.aload_n 0, 1) := by decide +kernel
theorem dX1_clear_115 : decode cX1_clear 115 = .ok (.getfield 46, 3) := by decide +kernel
theorem dX1_clear_118 : decode cX1_clear 118 = .ok (.iconst 0, 1) := by decide +kernel
theorem dX1_clear_119 : decode cX1_clear 119 = .ok (.putfield 77, 3) := by decide +kernel
theorem dX1_clear_122 : decode cX1_clear 122 = .ok (.return_, 1) := by decide +kernel
theorem dX1_putCode_0 : decode cX1_putCode 0 = .ok (.aload_n 0, 1) := by decide +kernel
theorem dX1_putCode_1 : decode cX1_putCode 1 = .ok (.getfield 71, 3) := by decide +kernel
theorem dX1_putCode_4 : decode cX1_putCode 4 = .ok (.sipush 700, 3) := by decide +kernel
theorem dX1_putCode_7 : decode cX1_putCode 7 = .ok (.if_icmp .ge 23, 3) := by decide +kernel
theorem dX1_putCode_10 : decode cX1_putCode 10 = .ok (.aload_n 0, 1) := by decide +kernel
theorem dX1_putCode_11 : decode cX1_putCode 11 = .ok (.getfield 36, 3) := by decide +kernel
theorem dX1_putCode_14 : decode cX1_putCode 14 = .ok (.aload_n 0, 1) := by decide +kernel
theorem dX1_putCode_15 : decode cX1_putCode 15 = .ok (.getfield 71, 3) := by decide +kernel
theorem dX1_putCode_18 : decode cX1_putCode 18 = .ok (.iload_n 1, 1) := by decide +kernel
theorem dX1_putCode_19 : decode cX1_putCode 19 = .ok (.iastore, 1) := by decide +kernel
theorem dX1_putCode_20 : decode cX1_putCode 20 = .ok (.aload_n 0, 1) := by decide +kernel
theorem dX1_putCode_21 : decode cX1_putCode 21 = .ok (.dup, 1) := by decide +kernel
theorem dX1_putCode_22 : decode cX1_putCode 22 = .ok (.getfield 71, 3) := by decide +kernel
theorem dX1_putCode_25 : decode cX1_putCode 25 = .ok (.iconst 1, 1) := by decide +kernel
theorem dX1_putCode_26 : decode cX1_putCode 26 = .ok (.iadd, 1) := by decide +kernel
theorem dX1_putCode_27 : decode cX1_putCode 27 = .ok (.putfield 71, 3) := by decide +kernel
theorem dX1_putCode_30 : decode cX1_putCode 30 = .ok (.return_, 1) := by decide +kernel
theorem dX2_init_0 : decode cX2_init 0 = .ok (.aload_n 0, 1) := by decide +kernel
theorem dX2_init_1 : decode cX2_init 1 = .ok (.invokespecial 3, 3) := by decide +kernel
theorem dX2_init_4 : decode cX2_init 4 = .ok (.aload_n 0, 1) := by decide +kernel
theorem dX2_init_5 : decode cX2_init 5 = .ok (.bipush 8, 2) := by decide +kernel
theorem dX2_init_7 : decode cX2_init 7 = .ok (.newarray .int, 2) := by decide +kernel
theorem dX2_init_9 : decode cX2_init 9 = .ok (.putfield 11, 3) := by decide +kernel
theorem dX2_init_12 : decode cX2_init 12 = .ok (.aload_n 0, 1) := by decide +kernel
theorem dX2_init_13 : decode cX2_init 13 = .ok (.bipush 8, 2) := by decide +kernel
theorem dX2_init_15 : decode cX2_init 15 = .ok (.newarray .int, 2) := by decide +kernel
theorem dX2_init_17 : decode cX2_init 17 = .ok (.putfield 15, 3) := by decide +kernel
theorem dX2_init_20 : decode cX2_init 20 = .ok (.aload_n 0, 1) := by decide +kernel
theorem dX2_init_21 : decode cX2_init 21 = .ok (.bipush 8, 2) := by decide +kernel
theorem dX2_init_23 : decode cX2_init 23 = .ok (.newarray .int, 2) := by decide +kernel
theorem dX2_init_25 : decode cX2_init 25 = .ok (.putfield 18, 3) := by decide +kernel
theorem dX2_init_28 : decode cX2_init 28 = .ok (.return_, 1) := by decide +kernel
theorem dX2_isFull_0 : decode cX2_isFull 0 = .ok (.aload_n 0, 1) := by decide +kernel
theorem dX2_isFull_1 : decode cX2_isFull 1 = .ok (.getfield 21, 3) := by decide +kernel
theorem dX2_isFull_4 : decode cX2_isFull 4 = .ok (.bipush 8, 2) := by decide +kernel
theorem dX2_isFull_6 : decode cX2_isFull 6 = .ok (.if_icmp .lt 7, 3) := by decide +kernel
theorem dX2_isFull_9 : decode cX2_isFull 9 = .ok (.iconst 1, 1) := by decide +kernel
theorem dX2_isFull_10 : decode cX2_isFull 10 = .ok (.goto 4, 3) := by decide +kernel
theorem dX2_isFull_13 : decode cX2_isFull 13 = .ok (.iconst 0, 1) := by decide +kernel
theorem dX2_isFull_14 : decode cX2_isFull 14 = .ok (.ireturn, 1) := by decide +kernel
theorem dX2_clear_0 : decode cX2_clear 0 = .ok (.aload_n 0, 1) := by decide +kernel
theorem dX2_clear_1 : decode cX2_clear 1 = .ok (.iconst 0, 1) := by decide +kernel
theorem dX2_clear_2 : decode cX2_clear 2 = .ok (.putfield 21, 3) := by decide +kernel
theorem dX2_clear_5 : decode cX2_clear 5 = .ok (.return_, 1) := by decide +kernel
theorem dX2_put_0 : decode cX2_put 0 = .ok (.aload_n 0, 1) := by decide +kernel
theorem dX2_put_1 : decode cX2_put 1 = .ok (.invokevirtual 25, 3) := by decide +kernel
theorem dX2_put_4 : decode cX2_put 4 = .ok (.ifCond .eq 4, 3) := by decide +kernel
theorem dX2_put_7 : decode cX2_put 7 = .ok (.return_, 1) := by decide +kernel
theorem dX2_put_8 : decode cX2_put 8 = .ok (.aload_n 0, 1) := by decide +kernel
theorem dX2_put_9 : decode cX2_put 9 = .ok (.getfield 11, 3) := by decide +kernel
theorem dX2_put_12 : decode cX2_put 12 = .ok (.aload_n 0, 1) := by decide +kernel
theorem dX2_put_13 : decode cX2_put 13 = .ok (.getfield 21, 3) := by decide +kernel
theorem dX2_put_16 : decode cX2_put 16 = .ok (.iload_n 1, 1) := by decide +kernel
theorem dX2_put_17 : decode cX2_put 17 = .ok (.iastore, 1) := by decide +kernel
theorem dX2_put_18 : decode cX2_put 18 = .ok (.aload_n 0, 1) := by decide +kernel
theorem dX2_put_19 : decode cX2_put 19 = .ok (.getfield 15, 3) := by decide +kernel
theorem dX2_put_22 : decode cX2_put 22 = .ok (.aload_n 0, 1) := by decide +kernel
theorem dX2_put_23 : decode cX2_put 23 = .ok (.getfield 21, 3) := by decide +kernel
theorem dX2_put_26 : decode cX2_put 26 = .ok (.iload_n 2, 1) := by decide +kernel
theorem dX2_put_27 : decode cX2_put 27 = .ok (.iastore, 1) := by decide +kernel
theorem dX2_put_28 : decode cX2_put 28 = .ok (.aload_n 0, 1) := by decide +kernel
theorem dX2_put_29 : decode cX2_put 29 = .ok (.getfield 18, 3) := by decide +kernel
theorem dX2_put_32 : decode cX2_put 32 = .ok (.aload_n 0, 1) := by decide +kernel
theorem dX2_put_33 : decode cX2_put 33 = .ok (.getfield 21, 3) := by decide +kernel
theorem dX2_put_36 : decode cX2_put 36 = .ok (.iload_n 3, 1) := by decide +kernel
theorem dX2_put_37 : decode cX2_put 37 = .ok (.ifCond .eq 7, 3) := by decide +kernel
theorem dX2_put_40 : decode cX2_put 40 = .ok (.iconst 1, 1) := by decide +kernel
theorem dX2_put_41 : decode cX2_put 41 = .ok (.goto 4, 3) := by decide +kernel
theorem dX2_put_44 : decode cX2_put 44 = .ok (.iconst 0, 1) := by decide +kernel
theorem dX2_put_45 : decode cX2_put 45 = .ok (.iastore, 1) := by decide +kernel
theorem dX2_put_46 : decode cX2_put 46 = .ok (.aload_n 0, 1) := by decide +kernel
theorem dX2_put_47 : decode cX2_put 47 = .ok (.dup, 1) := by decide +kernel
theorem dX2_put_48 : decode cX2_put 48 = .ok (.getfield 21, 3) := by decide +kernel
theorem dX2_put_51 : decode cX2_put 51 = .ok (.iconst 1, 1) := by decide +kernel
theorem dX2_put_52 : decode cX2_put 52 = .ok (.iadd, 1) := by decide +kernel
theorem dX2_put_53 : decode cX2_put 53 = .ok (.putfield 21, 3) := by decide +kernel
theorem dX2_put_56 : decode cX2_put 56 = .ok (.return_, 1) := by decide +kernel
theorem dX2_copyFrom_0 : decode cX2_copyFrom 0 = .ok (.aload_n 1, 1) := by decide +kernel
theorem dX2_copyFrom_1 : decode cX2_copyFrom 1 = .ok (.getfield 11, 3) := by decide +kernel
theorem dX2_copyFrom_4 : decode cX2_copyFrom 4 = .ok (.iconst 0, 1) := by decide +kernel
theorem dX2_copyFrom_5 : decode cX2_copyFrom 5 = .ok (.aload_n 0, 1) := by decide +kernel
theorem dX2_copyFrom_6 : decode cX2_copyFrom 6 = .ok (.getfield 11, 3) := by decide +kernel
theorem dX2_copyFrom_9 : decode cX2_copyFrom 9 = .ok (.iconst 0, 1) := by decide +kernel
theorem dX2_copyFrom_10 : decode cX2_copyFrom 10 = .ok (.bipush 8, 2) := by decide +kernel
theorem dX2_copyFrom_12 : decode cX2_copyFrom 12 = .ok (.invokestatic 29, 3) := by decide +kernel
theorem dX2_copyFrom_15 : decode cX2_copyFrom 15 = .ok (.aload_n 1, 1) := by decide +kernel
theorem dX2_copyFrom_16 : decode cX2_copyFrom 16 = .ok (.getfield 15, 3) := by decide +kernel
theorem dX2_copyFrom_19 : decode cX2_copyFrom 19 = .ok (.iconst 0, 1) := by decide +kernel
theorem dX2_copyFrom_20 : decode cX2_copyFrom 20 = .ok (.aload_n 0, 1) := by decide +kernel
theorem dX2_copyFrom_21 : decode cX2_copyFrom 21 = .ok (.getfield 15, 3) := by decide +kernel
theorem dX2_copyFrom_24 : decode cX2_copyFrom 24 = .ok (.iconst 0, 1) := by decide +kernel
theorem dX2_copyFrom_25 : decode cX2_copyFrom 25 = .ok (.bipush 8, 2) := by decide +kernel
theorem dX2_copyFrom_27 : decode cX2_copyFrom 27 = .ok (.invokestatic 29, 3) := by decide +kernel
theorem dX2_copyFrom_30 : decode cX2_copyFrom 30 = .ok (.aload_n 1, 1) := by decide +kernel
theorem dX2_copyFrom_31 : decode cX2_copyFrom 31 = .ok (.getfield 18, 3) := by decide +kernel
theorem dX2_copyFrom_34 : decode cX2_copyFrom 34 = .ok (.iconst 0, 1) := by decide +kernel
theorem dX2_copyFrom_35 : decode cX2_copyFrom 35 = .ok (.aload_n 0, 1) := by decide +kernel
theorem dX2_copyFrom_36 : decode cX2_copyFrom 36 = .ok (.getfield 18, 3) := by decide +kernel
theorem dX2_copyFrom_39 : decode cX2_copyFrom 39 = .ok (.iconst 0, 1) := by decide +kernel
theorem dX2_copyFrom_40 : decode cX2_copyFrom 40 = .ok (.bipush 8, 2) := by decide +kernel
theorem dX2_copyFrom_42 : decode cX2_copyFrom 42 = .ok (.invokestatic 29, 3) := by decide +kernel
theorem dX2_copyFrom_45 : decode cX2_copyFrom 45 = .ok (.aload_n 0, 1) := by decide +kernel
theorem dX2_copyFrom_46 : decode cX2_copyFrom 46 = .ok (.aload_n 1, 1) := by decide +kernel
theorem dX2_copyFrom_47 : decode cX2_copyFrom 47 = .ok (.getfield 21, 3) := by decide +kernel
theorem dX2_copyFrom_50 : decode cX2_copyFrom 50 = .ok (.putfield 21, 3) := by decide +kernel
theorem dX2_copyFrom_53 : decode cX2_copyFrom 53 = .ok (.return_, 1) := by decide +kernel
theorem dX2_hold_0 : decode cX2_hold 0 = .ok (.aload_n 0, 1) := by decide +kernel
theorem dX2_hold_1 : decode cX2_hold 1 = .ok (.invokevirtual 35, 3) := by decide +kernel
theorem dX2_hold_4 : decode cX2_hold 4 = .ok (.istore_n 2, 1) := by decide +kernel
theorem dX2_hold_5 : decode cX2_hold 5 = .ok (.iconst 0, 1) := by decide +kernel
theorem dX2_hold_6 : decode cX2_hold 6 = .ok (.istore_n 3, 1) := by decide +kernel
theorem dX2_hold_7 : decode cX2_hold 7 = .ok (.iload_n 3, 1) := by decide +kernel
theorem dX2_hold_8 : decode cX2_hold 8 = .ok (.iload_n 2, 1) := by decide +kernel
theorem dX2_hold_9 : decode cX2_hold 9 = .ok (.if_icmp .gt 29, 3) := by decide +kernel
theorem dX2_hold_12 : decode cX2_hold 12 = .ok (.iload_n 3, 1) := by decide +kernel
theorem dX2_hold_13 : decode cX2_hold 13 = .ok (.ifCond .le 8, 3) := by decide +kernel
theorem dX2_hold_16 : decode cX2_hold 16 = .ok (.aload_n 1, 1) := by decide +kernel
theorem dX2_hold_17 : decode cX2_hold 17 = .ok (.iconst 0, 1) := by decide +kernel
theorem dX2_hold_18 : decode cX2_hold 18 = .ok (.invokevirtual 39, 3) := by decide +kernel
theorem dX2_hold_21 : decode cX2_hold 21 = .ok (.aload_n 0, 1) := by decide +kernel
theorem dX2_hold_22 : decode cX2_hold 22 = .ok (.aload_n 1, 1) := by decide +kernel
theorem dX2_hold_23 : decode cX2_hold 23 = .ok (.iload_n 3, 1) := by decide +kernel
theorem dX2_hold_24 : decode cX2_hold 24 = .ok (.invokevirtual 45, 3) := by decide +kernel
theorem dX2_hold_27 : decode cX2_hold 27 = .ok (.ifCond .ne 5, 3) := by decide +kernel
theorem dX2_hold_30 : decode cX2_hold 30 = .ok (.iconst 0, 1) := by decide +kernel
theorem dX2_hold_31 : decode cX2_hold 31 = .ok (.ireturn, 1) := by decide +kernel
theorem dX2_hold_32 : decode cX2_hold 32 = .ok (.iinc 3 1, 3) := by decide +kernel
theorem dX2_hold_35 : decode cX2_hold 35 = .ok (.goto (-28), 3) := by decide +kernel
theorem dX2_hold_38 : decode cX2_hold 38 = .ok (.iconst 1, 1) := by decide +kernel
theorem dX2_hold_39 : decode cX2_hold 39 = .ok (.ireturn, 1) := by decide +kernel
theorem dX2_lastDay_0 : decode cX2_lastDay 0 = .ok (.iconst 0, 1) := by decide +kernel
theorem dX2_lastDay_1 : decode cX2_lastDay 1 = .ok (.istore_n 1, 1) := by decide +kernel
theorem dX2_lastDay_2 : decode cX2_lastDay 2 = .ok (.iconst 0, 1) := by decide +kernel
theorem dX2_lastDay_3 : decode cX2_lastDay 3 = .ok (.istore_n 2, 1) := by decide +kernel
theorem dX2_lastDay_4 : decode cX2_lastDay 4 = .ok (.iload_n 2, 1) := by decide +kernel
theorem dX2_lastDay_5 : decode cX2_lastDay 5 = .ok (.aload_n 0, 1) := by decide +kernel
theorem dX2_lastDay_6 : decode cX2_lastDay 6 = .ok (.getfield 21, 3) := by decide +kernel
theorem dX2_lastDay_9 : decode cX2_lastDay 9 = .ok (.if_icmp .ge 20, 3) := by decide +kernel
theorem dX2_lastDay_12 : decode cX2_lastDay 12 = .ok (.iload_n 1, 1) := by decide +kernel
theorem dX2_lastDay_13 : decode cX2_lastDay 13 = .ok (.aload_n 0, 1) := by decide +kernel
theorem dX2_lastDay_14 : decode cX2_lastDay 14 = .ok (.getfield 15, 3) := by decide +kernel
theorem dX2_lastDay_17 : decode cX2_lastDay 17 = .ok (.iload_n 2, 1) := by decide +kernel
theorem dX2_lastDay_18 : decode cX2_lastDay 18 = .ok (.iaload, 1) := by decide +kernel
theorem dX2_lastDay_19 : decode cX2_lastDay 19 = .ok (.invokestatic 49, 3) := by decide +kernel
theorem dX2_lastDay_22 : decode cX2_lastDay 22 = .ok (.istore_n 1, 1) := by decide +kernel
theorem dX2_lastDay_23 : decode cX2_lastDay 23 = .ok (.iinc 2 1, 3) := by decide +kernel
theorem dX2_lastDay_26 : decode cX2_lastDay 26 = .ok (.goto (-22), 3) := by decide +kernel
theorem dX2_lastDay_29 : decode cX2_lastDay 29 = .ok (.iload_n 1, 1) := by decide +kernel
theorem dX2_lastDay_30 : decode cX2_lastDay 30 = .ok (.ireturn, 1) := by decide +kernel
theorem dX2_holdBehind_0 : decode cX2_holdBehind 0 = .ok (.iconst 0, 1) := by decide +kernel
theorem dX2_holdBehind_1 : decode cX2_holdBehind 1 = .ok (.istore_n 3, 1) := by decide +kernel
theorem dX2_holdBehind_2 : decode cX2_holdBehind 2 = .ok (.iload_n 3, 1) := by decide +kernel
theorem dX2_holdBehind_3 : decode cX2_holdBehind 3 = .ok (.aload_n 0, 1) := by decide +kernel
theorem dX2_holdBehind_4 : decode cX2_holdBehind 4 = .ok (.getfield 21, 3) := by decide +kernel
theorem dX2_holdBehind_7 : decode cX2_holdBehind 7 = .ok (.if_icmp .ge 50, 3) := by decide +kernel
theorem dX2_holdBehind_10 : decode cX2_holdBehind 10 = .ok (.aload_n 0, 1) := by decide +kernel
theorem dX2_holdBehind_11 : decode cX2_holdBehind 11 = .ok (.getfield 15, 3) := by decide +kernel
theorem dX2_holdBehind_14 : decode cX2_holdBehind 14 = .ok (.iload_n 3, 1) := by decide +kernel
theorem dX2_holdBehind_15 : decode cX2_holdBehind 15 = .ok (.iaload, 1) := by decide +kernel
theorem dX2_holdBehind_16 : decode cX2_holdBehind 16 = .ok (.iload_n 2, 1) := by decide +kernel
theorem dX2_holdBehind_17 : decode cX2_holdBehind 17 = .ok (.if_icmp .ne 34, 3) := by decide +kernel
theorem dX2_holdBehind_20 : decode cX2_holdBehind 20 = .ok (.aload_n 1, 1) := by decide +kernel
theorem dX2_holdBehind_21 : decode cX2_holdBehind 21 = .ok (.getfield 55, 3) := by decide +kernel
theorem dX2_holdBehind_24 : decode cX2_holdBehind 24 = .ok (.aload_n 0, 1) := by decide +kernel
theorem dX2_holdBehind_25 : decode cX2_holdBehind 25 = .ok (.getfield 11, 3) := by decide +kernel
theorem dX2_holdBehind_28 : decode cX2_holdBehind 28 = .ok (.iload_n 3, 1) := by decide +kernel
theorem dX2_holdBehind_29 : decode cX2_holdBehind 29 = .ok (.iaload, 1) := by decide +kernel
theorem dX2_holdBehind_30 : decode cX2_holdBehind 30 = .ok (.iaload, 1) := by decide +kernel
theorem dX2_holdBehind_31 : decode cX2_holdBehind 31 = .ok (.iconst (-1), 1) := by decide +kernel
theorem dX2_holdBehind_32 : decode cX2_holdBehind 32 = .ok (.if_icmp .eq 7, 3) := by decide +kernel
theorem dX2_holdBehind_35 : decode cX2_holdBehind 35 = .ok (.iconst 1, 1) := by decide +kernel
theorem dX2_holdBehind_36 : decode cX2_holdBehind 36 = .ok (.goto 4, 3) := by decide +kernel
theorem dX2_holdBehind_39 : decode cX2_holdBehind 39 = .ok (.iconst 0, 1) := by decide +kernel
theorem dX2_holdBehind_40 : decode cX2_holdBehind 40 = .ok (.aload_n 0, 1) := by decide +kernel
theorem dX2_holdBehind_41 : decode cX2_holdBehind 41 = .ok (.getfield 18, 3) := by decide +kernel
theorem dX2_holdBehind_44 : decode cX2_holdBehind 44 = .ok (.iload_n 3, 1) := by decide +kernel
theorem dX2_holdBehind_45 : decode cX2_holdBehind 45 = .ok (.iaload, 1) := by decide +kernel
theorem dX2_holdBehind_46 : decode cX2_holdBehind 46 = .ok (.if_icmp .eq 5, 3) := by decide +kernel
theorem dX2_holdBehind_49 : decode cX2_holdBehind 49 = .ok (.iconst 0, 1) := by decide +kernel
theorem dX2_holdBehind_50 : decode cX2_holdBehind 50 = .ok (.ireturn, 1) := by decide +kernel
theorem dX2_holdBehind_51 : decode cX2_holdBehind 51 = .ok (.iinc 3 1, 3) := by decide +kernel
theorem dX2_holdBehind_54 : decode cX2_holdBehind 54 = .ok (.goto (-52), 3) := by decide +kernel
theorem dX2_holdBehind_57 : decode cX2_holdBehind 57 = .ok (.iconst 1, 1) := by decide +kernel
theorem dX2_holdBehind_58 : decode cX2_holdBehind 58 = .ok (.ireturn, 1) := by decide +kernel
theorem dX4_init_0 : decode cX4_init 0 = .ok (.aload_n 0, 1) := by decide +kernel
theorem dX4_init_1 : decode cX4_init 1 = .ok (.invokespecial 1, 3) := by decide +kernel
theorem dX4_init_4 : decode cX4_init 4 = .ok (.return_, 1) := by decide +kernel
theorem dX4_isTold_0 : decode cX4_isTold 0 = .ok (.aload_n 0, 1) := by decide +kernel
theorem dX4_isTold_1 : decode cX4_isTold 1 = .ok (.getfield 7, 3) := by decide +kernel
theorem dX4_isTold_4 : decode cX4_isTold 4 = .ok (.aload_n 0, 1) := by decide +kernel
theorem dX4_isTold_5 : decode cX4_isTold 5 = .ok (.getfield 13, 3) := by decide +kernel
theorem dX4_isTold_8 : decode cX4_isTold 8 = .ok (.if_icmp .le 7, 3) := by decide +kernel
theorem dX4_isTold_11 : decode cX4_isTold 11 = .ok (.iconst 1, 1) := by decide +kernel
theorem dX4_isTold_12 : decode cX4_isTold 12 = .ok (.goto 4, 3) := by decide +kernel
theorem dX4_isTold_15 : decode cX4_isTold 15 = .ok (.iconst 0, 1) := by decide +kernel
theorem dX4_isTold_16 : decode cX4_isTold 16 = .ok (.ireturn, 1) := by decide +kernel
theorem dX4_result_0 : decode cX4_result 0 = .ok (.iconst 0, 1) := by decide +kernel
theorem dX4_result_1 : decode cX4_result 1 = .ok (.istore 4, 2) := by decide +kernel
theorem dX4_result_3 : decode cX4_result 3 = .ok (.aload_n 0, 1) := by decide +kernel
theorem dX4_result_4 : decode cX4_result 4 = .ok (.getfield 13, 3) := by decide +kernel
theorem dX4_result_7 : decode cX4_result 7 = .ok (.istore 5, 2) := by decide +kernel
theorem dX4_result_9 : decode cX4_result 9 = .ok (.iload 5, 2) := by decide +kernel
theorem dX4_result_11 : decode cX4_result 11 = .ok (.aload_n 0, 1) := by decide +kernel
theorem dX4_result_12 : decode cX4_result 12 = .ok (.getfield 7, 3) := by decide +kernel
theorem dX4_result_15 : decode cX4_result 15 = .ok (.if_icmp .ge 151, 3) := by decide +kernel
theorem dX4_result_18 : decode cX4_result 18 = .ok (.iload 5, 2) := by decide +kernel
theorem dX4_result_20 : decode cX4_result 20 = .ok (.aload_n 1, 1) := by decide +kernel
theorem dX4_result_21 : decode cX4_result 21 = .ok (.arraylength, 1) := by decide +kernel
theorem dX4_result_22 : decode cX4_result 22 = .ok (.if_icmp .ge 144, 3) := by decide +kernel
theorem dX4_result_25 : decode cX4_result 25 = .ok (.aload_n 1, 1) := by decide +kernel
theorem dX4_result_26 : decode cX4_result 26 = .ok (.iload 5, 2) := by decide +kernel
theorem dX4_result_28 : decode cX4_result 28 = .ok (.iaload, 1) := by decide +kernel
theorem dX4_result_29 : decode cX4_result 29 = .ok (.istore 6, 2) := by decide +kernel
theorem dX4_result_31 : decode cX4_result 31 = .ok (.iload 6, 2) := by decide +kernel
theorem dX4_result_33 : decode cX4_result 33 = .ok (.sipush 10000, 3) := by decide +kernel
theorem dX4_result_36 : decode cX4_result 36 = .ok (.isub, 1) := by decide +kernel
theorem dX4_result_37 : decode cX4_result 37 = .ok (.istore 7, 2) := by decide +kernel
theorem dX4_result_39 : decode cX4_result 39 = .ok (.iload 6, 2) := by decide +kernel
theorem dX4_result_41 : decode cX4_result 41 = .ok (.sipush 20000, 3) := by decide +kernel
theorem dX4_result_44 : decode cX4_result 44 = .ok (.isub, 1) := by decide +kernel
theorem dX4_result_45 : decode cX4_result 45 = .ok (.istore 8, 2) := by decide +kernel
theorem dX4_result_47 : decode cX4_result 47 = .ok (.iload 8, 2) := by decide +kernel
theorem dX4_result_49 : decode cX4_result 49 = .ok (.iconst 3, 1) := by decide +kernel
theorem dX4_result_50 : decode cX4_result 50 = .ok (.if_icmp .ne 32, 3) := by decide +kernel
theorem dX4_result_53 : decode cX4_result 53 = .ok (.iload 4, 2) := by decide +kernel
theorem dX4_result_55 : decode cX4_result 55 = .ok (.iconst 1, 1) := by decide +kernel
theorem dX4_result_56 : decode cX4_result 56 = .ok (.if_icmp .lt 26, 3) := by decide +kernel
theorem dX4_result_59 : decode cX4_result 59 = .ok (.aload_n 3, 1) := by decide +kernel
theorem dX4_result_60 : decode cX4_result 60 = .ok (.iload 4, 2) := by decide +kernel
theorem dX4_result_62 : decode cX4_result 62 = .ok (.iconst 1, 1) := by decide +kernel
theorem dX4_result_63 : decode cX4_result 63 = .ok (.isub, 1) := by decide +kernel
theorem dX4_result_64 : decode cX4_result 64 = .ok (.aload_n 3, 1) := by decide +kernel
theorem dX4_result_65 : decode cX4_result 65 = .ok (.iload 4, 2) := by decide +kernel
theorem dX4_result_67 : decode cX4_result 67 = .ok (.iconst 1, 1) := by decide +kernel
theorem dX4_result_68 : decode cX4_result 68 = .ok (.isub, 1) := by decide +kernel
theorem dX4_result_69 : decode cX4_result 69 = .ok (.iaload, 1) := by decide +kernel
theorem dX4_result_70 : decode cX4_result 70 = .ok (.ifCond .ne 7, 3) := by decide +kernel
theorem dX4_result_73 : decode cX4_result 73 = .ok (.iconst 1, 1) := by decide +kernel
theorem dX4_result_74 : decode cX4_result 74 = .ok (.goto 4, 3) := by decide +kernel
theorem dX4_result_77 : decode cX4_result 77 = .ok (.iconst 0, 1) := by decide +kernel
theorem dX4_result_78 : decode cX4_result 78 = .ok (.iastore, 1) := by decide +kernel
theorem dX4_result_79 : decode cX4_result 79 = .ok (.goto 81, 3) := by decide +kernel
theorem dX4_result_82 : decode cX4_result 82 = .ok (.iload 8, 2) := by decide +kernel
theorem dX4_result_84 : decode cX4_result 84 = .ok (.ifCond .lt 36, 3) := by decide +kernel
theorem dX4_result_87 : decode cX4_result 87 = .ok (.iload 4, 2) := by decide +kernel
theorem dX4_result_89 : decode cX4_result 89 = .ok (.iconst 2, 1) := by decide +kernel
theorem dX4_result_90 : decode cX4_result 90 = .ok (.if_icmp .lt 30, 3) := by decide +kernel
theorem dX4_result_93 : decode cX4_result 93 = .ok (.iinc 4 (-1), 3) := by decide +kernel
theorem dX4_result_96 : decode cX4_result 96 = .ok (.aload_n 3, 1) := by decide +kernel
theorem dX4_result_97 : decode cX4_result 97 = .ok (.iload 4, 2) := by decide +kernel
theorem dX4_result_99 : decode cX4_result 99 = .ok (.iconst 1, 1) := by decide +kernel
theorem dX4_result_100 : decode cX4_result 100 = .ok (.isub, 1) := by decide +kernel
theorem dX4_result_101 : decode cX4_result 101 = .ok (.iload 8, 2) := by decide +kernel
theorem dX4_result_103 : decode cX4_result 103 = .ok (.aload_n 3, 1) := by decide +kernel
theorem dX4_result_104 : decode cX4_result 104 = .ok (.iload 4, 2) := by decide +kernel
theorem dX4_result_106 : decode cX4_result 106 = .ok (.iconst 1, 1) := by decide +kernel
theorem dX4_result_107 : decode cX4_result 107 = .ok (.isub, 1) := by decide +kernel
theorem dX4_result_108 : decode cX4_result 108 = .ok (.iaload, 1) := by decide +kernel
theorem dX4_result_109 : decode cX4_result 109 = .ok (.aload_n 3, 1) := by decide +kernel
theorem dX4_result_110 : decode cX4_result 110 = .ok (.iload 4, 2) := by decide +kernel
theorem dX4_result_112 : decode cX4_result 112 = .ok (.iaload, 1) := by decide +kernel
theorem dX4_result_113 : decode cX4_result 113 = .ok (.invokestatic 16, 3) := by decide +kernel
theorem dX4_result_116 : decode cX4_result 116 = .ok (.iastore, 1) := by decide +kernel
theorem dX4_result_117 : decode cX4_result 117 = .ok (.goto 43, 3) := by decide +kernel
theorem dX4_result_120 : decode cX4_result 120 = .ok (.iload 8, 2) := by decide +kernel
theorem dX4_result_122 : decode cX4_result 122 = .ok (.ifCond .ge 38, 3) := by decide +kernel
theorem dX4_result_125 : decode cX4_result 125 = .ok (.iload 4, 2) := by decide +kernel
theorem dX4_result_127 : decode cX4_result 127 = .ok (.aload_n 3, 1) := by decide +kernel
theorem dX4_result_128 : decode cX4_result 128 = .ok (.arraylength, 1) := by decide +kernel
theorem dX4_result_129 : decode cX4_result 129 = .ok (.if_icmp .ge 31, 3) := by decide +kernel
theorem dX4_result_132 : decode cX4_result 132 = .ok (.aload_n 3, 1) := by decide +kernel
theorem dX4_result_133 : decode cX4_result 133 = .ok (.iload 4, 2) := by decide +kernel
theorem dX4_result_135 : decode cX4_result 135 = .ok (.iload 7, 2) := by decide +kernel
theorem dX4_result_137 : decode cX4_result 137 = .ok (.ifCond .lt 17, 3) := by decide +kernel
theorem dX4_result_140 : decode cX4_result 140 = .ok (.iload 7, 2) := by decide +kernel
theorem dX4_result_142 : decode cX4_result 142 = .ok (.aload_n 2, 1) := by decide +kernel
theorem dX4_result_143 : decode cX4_result 143 = .ok (.arraylength, 1) := by decide +kernel
theorem dX4_result_144 : decode cX4_result 144 = .ok (.if_icmp .ge 10, 3) := by decide +kernel
theorem dX4_result_147 : decode cX4_result 147 = .ok (.aload_n 2, 1) := by decide +kernel
theorem dX4_result_148 : decode cX4_result 148 = .ok (.iload 7, 2) := by decide +kernel
theorem dX4_result_150 : decode cX4_result 150 = .ok (.iaload, 1) := by decide +kernel
theorem dX4_result_151 : decode cX4_result 151 = .ok (.goto 5, 3) := by decide +kernel
theorem dX4_result_154 : decode cX4_result 154 = .ok (.iload 6, 2) := by decide +kernel
theorem dX4_result_156 : decode cX4_result 156 = .ok (.iastore, 1) := by decide +kernel
theorem dX4_result_157 : decode cX4_result 157 = .ok (.iinc 4 1, 3) := by decide +kernel
theorem dX4_result_160 : decode cX4_result 160 = .ok (.iinc 5 1, 3) := by decide +kernel
theorem dX4_result_163 : decode cX4_result 163 = .ok (.goto (-154), 3) := by decide +kernel
theorem dX4_result_166 : decode cX4_result 166 = .ok (.iload 4, 2) := by decide +kernel
theorem dX4_result_168 : decode cX4_result 168 = .ok (.ifCond .le 9, 3) := by decide +kernel
theorem dX4_result_171 : decode cX4_result 171 = .ok (.aload_n 3, 1) := by decide +kernel
theorem dX4_result_172 : decode cX4_result 172 = .ok (.iconst 0, 1) := by decide +kernel
theorem dX4_result_173 : decode cX4_result 173 = .ok (.iaload, 1) := by decide +kernel
theorem dX4_result_174 : decode cX4_result 174 = .ok (.goto 4, 3) := by decide +kernel
theorem dX4_result_177 : decode cX4_result 177 = .ok (.iconst 0, 1) := by decide +kernel
theorem dX4_result_178 : decode cX4_result 178 = .ok (.ireturn, 1) := by decide +kernel
theorem dX4_two_0 : decode cX4_two 0 = .ok (.iload_n 0, 1) := by decide +kernel
theorem dX4_two_1 : decode cX4_two 1 = .ok (.tableswitch 109 1 8 #[47, 61, 109, 75, 86, 97, 101, 105], 47) := by decide +kernel
theorem dX4_two_48 : decode cX4_two 48 = .ok (.iload_n 1, 1) := by decide +kernel
theorem dX4_two_49 : decode cX4_two 49 = .ok (.ifCond .ne 7, 3) := by decide +kernel
theorem dX4_two_52 : decode cX4_two 52 = .ok (.iload_n 2, 1) := by decide +kernel
theorem dX4_two_53 : decode cX4_two 53 = .ok (.ifCond .eq 7, 3) := by decide +kernel
theorem dX4_two_56 : decode cX4_two 56 = .ok (.iconst 1, 1) := by decide +kernel
theorem dX4_two_57 : decode cX4_two 57 = .ok (.goto 4, 3) := by decide +kernel
theorem dX4_two_60 : decode cX4_two 60 = .ok (.iconst 0, 1) := by decide +kernel
theorem dX4_two_61 : decode cX4_two 61 = .ok (.ireturn, 1) := by decide +kernel
theorem dX4_two_62 : decode cX4_two 62 = .ok (.iload_n 1, 1) := by decide +kernel
theorem dX4_two_63 : decode cX4_two 63 = .ok (.ifCond .eq 11, 3) := by decide +kernel
theorem dX4_two_66 : decode cX4_two 66 = .ok (.iload_n 2, 1) := by decide +kernel
theorem dX4_two_67 : decode cX4_two 67 = .ok (.ifCond .eq 7, 3) := by decide +kernel
theorem dX4_two_70 : decode cX4_two 70 = .ok (.iconst 1, 1) := by decide +kernel
theorem dX4_two_71 : decode cX4_two 71 = .ok (.goto 4, 3) := by decide +kernel
theorem dX4_two_74 : decode cX4_two 74 = .ok (.iconst 0, 1) := by decide +kernel
theorem dX4_two_75 : decode cX4_two 75 = .ok (.ireturn, 1) := by decide +kernel
theorem dX4_two_76 : decode cX4_two 76 = .ok (.iload_n 1, 1) := by decide +kernel
theorem dX4_two_77 : decode cX4_two 77 = .ok (.iload_n 2, 1) := by decide +kernel
theorem dX4_two_78 : decode cX4_two 78 = .ok (.if_icmp .ge 7, 3) := by decide +kernel
theorem dX4_two_81 : decode cX4_two 81 = .ok (.iconst 1, 1) := by decide +kernel
theorem dX4_two_82 : decode cX4_two 82 = .ok (.goto 4, 3) := by decide +kernel
theorem dX4_two_85 : decode cX4_two 85 = .ok (.iconst 0, 1) := by decide +kernel
theorem dX4_two_86 : decode cX4_two 86 = .ok (.ireturn, 1) := by decide +kernel
theorem dX4_two_87 : decode cX4_two 87 = .ok (.iload_n 1, 1) := by decide +kernel
theorem dX4_two_88 : decode cX4_two 88 = .ok (.iload_n 2, 1) := by decide +kernel
theorem dX4_two_89 : decode cX4_two 89 = .ok (.if_icmp .ne 7, 3) := by decide +kernel
theorem dX4_two_92 : decode cX4_two 92 = .ok (.iconst 1, 1) := by decide +kernel
theorem dX4_two_93 : decode cX4_two 93 = .ok (.goto 4, 3) := by decide +kernel
theorem dX4_two_96 : decode cX4_two 96 = .ok (.iconst 0, 1) := by decide +kernel
theorem dX4_two_97 : decode cX4_two 97 = .ok (.ireturn, 1) := by decide +kernel
theorem dX4_two_98 : decode cX4_two 98 = .ok (.iload_n 1, 1) := by decide +kernel
theorem dX4_two_99 : decode cX4_two 99 = .ok (.iload_n 2, 1) := by decide +kernel
theorem dX4_two_100 : decode cX4_two 100 = .ok (.iadd, 1) := by decide +kernel
theorem dX4_two_101 : decode cX4_two 101 = .ok (.ireturn, 1) := by decide +kernel
theorem dX4_two_102 : decode cX4_two 102 = .ok (.iload_n 1, 1) := by decide +kernel
theorem dX4_two_103 : decode cX4_two 103 = .ok (.iload_n 2, 1) := by decide +kernel
theorem dX4_two_104 : decode cX4_two 104 = .ok (.isub, 1) := by decide +kernel
theorem dX4_two_105 : decode cX4_two 105 = .ok (.ireturn, 1) := by decide +kernel
theorem dX4_two_106 : decode cX4_two 106 = .ok (.iload_n 1, 1) := by decide +kernel
theorem dX4_two_107 : decode cX4_two 107 = .ok (.iload_n 2, 1) := by decide +kernel
theorem dX4_two_108 : decode cX4_two 108 = .ok (.imul, 1) := by decide +kernel
theorem dX4_two_109 : decode cX4_two 109 = .ok (.ireturn, 1) := by decide +kernel
theorem dX4_two_110 : decode cX4_two 110 = .ok (.iload_n 2, 1) := by decide +kernel
theorem dX4_two_111 : decode cX4_two 111 = .ok (.ifCond .ne 7, 3) := by decide +kernel
theorem dX4_two_114 : decode cX4_two 114 = .ok (.iconst 0, 1) := by decide +kernel
theorem dX4_two_115 : decode cX4_two 115 = .ok (.goto 6, 3) := by decide +kernel
theorem dX4_two_118 : decode cX4_two 118 = .ok (.iload_n 1, 1) := by decide +kernel
theorem dX4_two_119 : decode cX4_two 119 = .ok (.iload_n 2, 1) := by decide +kernel
theorem dX4_two_120 : decode cX4_two 120 = .ok (.idiv, 1) := by decide +kernel
theorem dX4_two_121 : decode cX4_two 121 = .ok (.ireturn, 1) := by decide +kernel
theorem dX6_init_0 : decode cX6_init 0 = .ok (.aload_n 0, 1) := by decide +kernel
theorem dX6_init_1 : decode cX6_init 1 = .ok (.invokespecial 3, 3) := by decide +kernel
theorem dX6_init_4 : decode cX6_init 4 = .ok (.aload_n 0, 1) := by decide +kernel
theorem dX6_init_5 : decode cX6_init 5 = .ok (.bipush 8, 2) := by decide +kernel
theorem dX6_init_7 : decode cX6_init 7 = .ok (.newarray .int, 2) := by decide +kernel
theorem dX6_init_9 : decode cX6_init 9 = .ok (.putfield 9, 3) := by decide +kernel
theorem dX6_init_12 : decode cX6_init 12 = .ok (.aload_n 0, 1) := by decide +kernel
theorem dX6_init_13 : decode cX6_init 13 = .ok (.bipush 8, 2) := by decide +kernel
theorem dX6_init_15 : decode cX6_init 15 = .ok (.newarray .int, 2) := by decide +kernel
theorem dX6_init_17 : decode cX6_init 17 = .ok (.putfield 15, 3) := by decide +kernel
theorem dX6_init_20 : decode cX6_init 20 = .ok (.aload_n 0, 1) := by decide +kernel
theorem dX6_init_21 : decode cX6_init 21 = .ok (.bipush 48, 2) := by decide +kernel
theorem dX6_init_23 : decode cX6_init 23 = .ok (.newarray .int, 2) := by decide +kernel
theorem dX6_init_25 : decode cX6_init 25 = .ok (.putfield 18, 3) := by decide +kernel
theorem dX6_init_28 : decode cX6_init 28 = .ok (.aload_n 0, 1) := by decide +kernel
theorem dX6_init_29 : decode cX6_init 29 = .ok (.bipush 10, 2) := by decide +kernel
theorem dX6_init_31 : decode cX6_init 31 = .ok (.newarray .int, 2) := by decide +kernel
theorem dX6_init_33 : decode cX6_init 33 = .ok (.putfield 21, 3) := by decide +kernel
theorem dX6_init_36 : decode cX6_init 36 = .ok (.aload_n 0, 1) := by decide +kernel
theorem dX6_init_37 : decode cX6_init 37 = .ok (.bipush 10, 2) := by decide +kernel
theorem dX6_init_39 : decode cX6_init 39 = .ok (.newarray .int, 2) := by decide +kernel
theorem dX6_init_41 : decode cX6_init 41 = .ok (.putfield 24, 3) := by decide +kernel
theorem dX6_init_44 : decode cX6_init 44 = .ok (.aload_n 0, 1) := by decide +kernel
theorem dX6_init_45 : decode cX6_init 45 = .ok (.bipush 10, 2) := by decide +kernel
theorem dX6_init_47 : decode cX6_init 47 = .ok (.newarray .int, 2) := by decide +kernel
theorem dX6_init_49 : decode cX6_init 49 = .ok (.putfield 27, 3) := by decide +kernel
theorem dX6_init_52 : decode cX6_init 52 = .ok (.aload_n 0, 1) := by decide +kernel
theorem dX6_init_53 : decode cX6_init 53 = .ok (.bipush 10, 2) := by decide +kernel
theorem dX6_init_55 : decode cX6_init 55 = .ok (.newarray .int, 2) := by decide +kernel
theorem dX6_init_57 : decode cX6_init 57 = .ok (.putfield 30, 3) := by decide +kernel
theorem dX6_init_60 : decode cX6_init 60 = .ok (.aload_n 0, 1) := by decide +kernel
theorem dX6_init_61 : decode cX6_init 61 = .ok (.bipush 6, 2) := by decide +kernel
theorem dX6_init_63 : decode cX6_init 63 = .ok (.newarray .int, 2) := by decide +kernel
theorem dX6_init_65 : decode cX6_init 65 = .ok (.putfield 33, 3) := by decide +kernel
theorem dX6_init_68 : decode cX6_init 68 = .ok (.aload_n 0, 1) := by decide +kernel
theorem dX6_init_69 : decode cX6_init 69 = .ok (.bipush 8, 2) := by decide +kernel
theorem dX6_init_71 : decode cX6_init 71 = .ok (.newarray .int, 2) := by decide +kernel
theorem dX6_init_73 : decode cX6_init 73 = .ok (.putfield 36, 3) := by decide +kernel
theorem dX6_init_76 : decode cX6_init 76 = .ok (.aload_n 0, 1) := by decide +kernel
theorem dX6_init_77 : decode cX6_init 77 = .ok (.bipush 9, 2) := by decide +kernel
theorem dX6_init_79 : decode cX6_init 79 = .ok (.newarray .int, 2) := by decide +kernel
theorem dX6_init_81 : decode cX6_init 81 = .ok (.putfield 41, 3) := by decide +kernel
theorem dX6_init_84 : decode cX6_init 84 = .ok (.aload_n 0, 1) := by decide +kernel
theorem dX6_init_85 : decode cX6_init 85 = .ok (.bipush 64, 2) := by decide +kernel
theorem dX6_init_87 : decode cX6_init 87 = .ok (.newarray .int, 2) := by decide +kernel
theorem dX6_init_89 : decode cX6_init 89 = .ok (.putfield 44, 3) := by decide +kernel
theorem dX6_init_92 : decode cX6_init 92 = .ok (.return_, 1) := by decide +kernel
theorem dX6_begin_0 : decode cX6_begin 0 = .ok (.aload_n 0, 1) := by decide +kernel
theorem dX6_begin_1 : decode cX6_begin 1 = .ok (.aload_n 1, 1) := by decide +kernel
theorem dX6_begin_2 : decode cX6_begin 2 = .ok (.putfield 47, 3) := by decide +kernel
theorem dX6_begin_5 : decode cX6_begin 5 = .ok (.aload_n 0, 1) := by decide +kernel
theorem dX6_begin_6 : decode cX6_begin 6 = .ok (.iconst 0, 1) := by decide +kernel
theorem dX6_begin_7 : decode cX6_begin 7 = .ok (.putfield 51, 3) := by decide +kernel
theorem dX6_begin_10 : decode cX6_begin 10 = .ok (.aload_n 0, 1) := by decide +kernel
theorem dX6_begin_11 : decode cX6_begin 11 = .ok (.iconst 0, 1) := by decide +kernel
theorem dX6_begin_12 : decode cX6_begin 12 = .ok (.putfield 55, 3) := by decide +kernel
theorem dX6_begin_15 : decode cX6_begin 15 = .ok (.aload_n 1, 1) := by decide +kernel
theorem dX6_begin_16 : decode cX6_begin 16 = .ok (.getfield 58, 3) := by decide +kernel
theorem dX6_begin_19 : decode cX6_begin 19 = .ok (.aload_n 0, 1) := by decide +kernel
theorem dX6_begin_20 : decode cX6_begin 20 = .ok (.getfield 9, 3) := by decide +kernel
theorem dX6_begin_23 : decode cX6_begin 23 = .ok (.invokestatic 61, 3) := by decide +kernel
theorem dX6_begin_26 : decode cX6_begin 26 = .ok (.aload_n 0, 1) := by decide +kernel
theorem dX6_begin_27 : decode cX6_begin 27 = .ok (.getfield 15, 3) := by decide +kernel
theorem dX6_begin_30 : decode cX6_begin 30 = .ok (.iconst 0, 1) := by decide +kernel
theorem dX6_begin_31 : decode cX6_begin 31 = .ok (.invokestatic 65, 3) := by decide +kernel
theorem dX6_begin_34 : decode cX6_begin 34 = .ok (.aload_n 1, 1) := by decide +kernel
theorem dX6_begin_35 : decode cX6_begin 35 = .ok (.getfield 71, 3) := by decide +kernel
theorem dX6_begin_38 : decode cX6_begin 38 = .ok (.aload_n 0, 1) := by decide +kernel
theorem dX6_begin_39 : decode cX6_begin 39 = .ok (.getfield 18, 3) := by decide +kernel
theorem dX6_begin_42 : decode cX6_begin 42 = .ok (.invokestatic 61, 3) := by decide +kernel
theorem dX6_begin_45 : decode cX6_begin 45 = .ok (.aload_n 1, 1) := by decide +kernel
theorem dX6_begin_46 : decode cX6_begin 46 = .ok (.getfield 72, 3) := by decide +kernel
theorem dX6_begin_49 : decode cX6_begin 49 = .ok (.aload_n 0, 1) := by decide +kernel
theorem dX6_begin_50 : decode cX6_begin 50 = .ok (.getfield 21, 3) := by decide +kernel
theorem dX6_begin_53 : decode cX6_begin 53 = .ok (.invokestatic 61, 3) := by decide +kernel
theorem dX6_begin_56 : decode cX6_begin 56 = .ok (.aload_n 1, 1) := by decide +kernel
theorem dX6_begin_57 : decode cX6_begin 57 = .ok (.getfield 73, 3) := by decide +kernel
theorem dX6_begin_60 : decode cX6_begin 60 = .ok (.aload_n 0, 1) := by decide +kernel
theorem dX6_begin_61 : decode cX6_begin 61 = .ok (.getfield 24, 3) := by decide +kernel
theorem dX6_begin_64 : decode cX6_begin 64 = .ok (.invokestatic 61, 3) := by decide +kernel
theorem dX6_begin_67 : decode cX6_begin 67 = .ok (.aload_n 1, 1) := by decide +kernel
theorem dX6_begin_68 : decode cX6_begin 68 = .ok (.getfield 74, 3) := by decide +kernel
theorem dX6_begin_71 : decode cX6_begin 71 = .ok (.aload_n 0, 1) := by decide +kernel
theorem dX6_begin_72 : decode cX6_begin 72 = .ok (.getfield 27, 3) := by decide +kernel
theorem dX6_begin_75 : decode cX6_begin 75 = .ok (.invokestatic 61, 3) := by decide +kernel
theorem dX6_begin_78 : decode cX6_begin 78 = .ok (.aload_n 0, 1) := by decide +kernel
theorem dX6_begin_79 : decode cX6_begin 79 = .ok (.getfield 30, 3) := by decide +kernel
theorem dX6_begin_82 : decode cX6_begin 82 = .ok (.iconst 0, 1) := by decide +kernel
theorem dX6_begin_83 : decode cX6_begin 83 = .ok (.invokestatic 65, 3) := by decide +kernel
theorem dX6_begin_86 : decode cX6_begin 86 = .ok (.return_, 1) := by decide +kernel
theorem dX6_copyFrom_0 : decode cX6_copyFrom 0 = .ok (.aload_n 0, 1) := by decide +kernel
theorem dX6_copyFrom_1 : decode cX6_copyFrom 1 = .ok (.aload_n 1, 1) := by decide +kernel
theorem dX6_copyFrom_2 : decode cX6_copyFrom 2 = .ok (.getfield 47, 3) := by decide +kernel
theorem dX6_copyFrom_5 : decode cX6_copyFrom 5 = .ok (.putfield 47, 3) := by decide +kernel
theorem dX6_copyFrom_8 : decode cX6_copyFrom 8 = .ok (.aload_n 0, 1) := by decide +kernel
theorem dX6_copyFrom_9 : decode cX6_copyFrom 9 = .ok (.aload_n 1, 1) := by decide +kernel
theorem dX6_copyFrom_10 : decode cX6_copyFrom 10 = .ok (.getfield 51, 3) := by decide +kernel
theorem dX6_copyFrom_13 : decode cX6_copyFrom 13 = .ok (.putfield 51, 3) := by decide +kernel
theorem dX6_copyFrom_16 : decode cX6_copyFrom 16 = .ok (.aload_n 0, 1) := by decide +kernel
theorem dX6_copyFrom_17 : decode cX6_copyFrom 17 = .ok (.iconst 0, 1) := by decide +kernel
theorem dX6_copyFrom_18 : decode cX6_copyFrom 18 = .ok (.putfield 55, 3) := by decide +kernel
theorem dX6_copyFrom_21 : decode cX6_copyFrom 21 = .ok (.aload_n 1, 1) := by decide +kernel
theorem dX6_copyFrom_22 : decode cX6_copyFrom 22 = .ok (.getfield 9, 3) := by decide +kernel
theorem dX6_copyFrom_25 : decode cX6_copyFrom 25 = .ok (.aload_n 0, 1) := by decide +kernel
theorem dX6_copyFrom_26 : decode cX6_copyFrom 26 = .ok (.getfield 9, 3) := by decide +kernel
theorem dX6_copyFrom_29 : decode cX6_copyFrom 29 = .ok (.invokestatic 61, 3) := by decide +kernel
theorem dX6_copyFrom_32 : decode cX6_copyFrom 32 = .ok (.aload_n 1, 1) := by decide +kernel
theorem dX6_copyFrom_33 : decode cX6_copyFrom 33 = .ok (.getfield 15, 3) := by decide +kernel
theorem dX6_copyFrom_36 : decode cX6_copyFrom 36 = .ok (.aload_n 0, 1) := by decide +kernel
theorem dX6_copyFrom_37 : decode cX6_copyFrom 37 = .ok (.getfield 15, 3) := by decide +kernel
theorem dX6_copyFrom_40 : decode cX6_copyFrom 40 = .ok (.invokestatic 61, 3) := by decide +kernel
theorem dX6_copyFrom_43 : decode cX6_copyFrom 43 = .ok (.aload_n 1, 1) := by decide +kernel
theorem dX6_copyFrom_44 : decode cX6_copyFrom 44 = .ok (.getfield 18, 3) := by decide +kernel
theorem dX6_copyFrom_47 : decode cX6_copyFrom 47 = .ok (.aload_n 0, 1) := by decide +kernel
theorem dX6_copyFrom_48 : decode cX6_copyFrom 48 = .ok (.getfield 18, 3) := by decide +kernel
theorem dX6_copyFrom_51 : decode cX6_copyFrom 51 = .ok (.invokestatic 61, 3) := by decide +kernel
theorem dX6_copyFrom_54 : decode cX6_copyFrom 54 = .ok (.aload_n 1, 1) := by decide +kernel
theorem dX6_copyFrom_55 : decode cX6_copyFrom 55 = .ok (.getfield 21, 3) := by decide +kernel
theorem dX6_copyFrom_58 : decode cX6_copyFrom 58 = .ok (.aload_n 0, 1) := by decide +kernel
theorem dX6_copyFrom_59 : decode cX6_copyFrom 59 = .ok (.getfield 21, 3) := by decide +kernel
theorem dX6_copyFrom_62 : decode cX6_copyFrom 62 = .ok (.invokestatic 61, 3) := by decide +kernel
theorem dX6_copyFrom_65 : decode cX6_copyFrom 65 = .ok (.aload_n 1, 1) := by decide +kernel
theorem dX6_copyFrom_66 : decode cX6_copyFrom 66 = .ok (.getfield 24, 3) := by decide +kernel
theorem dX6_copyFrom_69 : decode cX6_copyFrom 69 = .ok (.aload_n 0, 1) := by decide +kernel
theorem dX6_copyFrom_70 : decode cX6_copyFrom 70 = .ok (.getfield 24, 3) := by decide +kernel
theorem dX6_copyFrom_73 : decode cX6_copyFrom 73 = .ok (.invokestatic 61, 3) := by decide +kernel
theorem dX6_copyFrom_76 : decode cX6_copyFrom 76 = .ok (.aload_n 1, 1) := by decide +kernel
theorem dX6_copyFrom_77 : decode cX6_copyFrom 77 = .ok (.getfield 27, 3) := by decide +kernel
theorem dX6_copyFrom_80 : decode cX6_copyFrom 80 = .ok (.aload_n 0, 1) := by decide +kernel
theorem dX6_copyFrom_81 : decode cX6_copyFrom 81 = .ok (.getfield 27, 3) := by decide +kernel
theorem dX6_copyFrom_84 : decode cX6_copyFrom 84 = .ok (.invokestatic 61, 3) := by decide +kernel
theorem dX6_copyFrom_87 : decode cX6_copyFrom 87 = .ok (.aload_n 1, 1) := by decide +kernel
theorem dX6_copyFrom_88 : decode cX6_copyFrom 88 = .ok (.getfield 30, 3) := by decide +kernel
theorem dX6_copyFrom_91 : decode cX6_copyFrom 91 = .ok (.aload_n 0, 1) := by decide +kernel
theorem dX6_copyFrom_92 : decode cX6_copyFrom 92 = .ok (.getfield 30, 3) := by decide +kernel
theorem dX6_copyFrom_95 : decode cX6_copyFrom 95 = .ok (.invokestatic 61, 3) := by decide +kernel
theorem dX6_copyFrom_98 : decode cX6_copyFrom 98 = .ok (.return_, 1) := by decide +kernel
theorem dX6_copyRow_0 : decode cX6_copyRow 0 = .ok (.aload_n 0, 1) := by decide +kernel
theorem dX6_copyRow_1 : decode cX6_copyRow 1 = .ok (.iconst 0, 1) := by decide +kernel
theorem dX6_copyRow_2 : decode cX6_copyRow 2 = .ok (.aload_n 1, 1) := by decide +kernel
theorem dX6_copyRow_3 : decode cX6_copyRow 3 = .ok (.iconst 0, 1) := by decide +kernel
theorem dX6_copyRow_4 : decode cX6_copyRow 4 = .ok (.aload_n 0, 1) := by decide +kernel
theorem dX6_copyRow_5 : decode cX6_copyRow 5 = .ok (.arraylength, 1) := by decide +kernel
theorem dX6_copyRow_6 : decode cX6_copyRow 6 = .ok (.aload_n 1, 1) := by decide +kernel
theorem dX6_copyRow_7 : decode cX6_copyRow 7 = .ok (.arraylength, 1) := by decide +kernel
theorem dX6_copyRow_8 : decode cX6_copyRow 8 = .ok (.invokestatic 75, 3) := by decide +kernel
theorem dX6_copyRow_11 : decode cX6_copyRow 11 = .ok (.invokestatic 81, 3) := by decide +kernel
theorem dX6_copyRow_14 : decode cX6_copyRow 14 = .ok (.return_, 1) := by decide +kernel
theorem dX6_pack_0 : decode cX6_pack 0 = .ok (.iload_n 2, 1) := by decide +kernel
theorem dX6_pack_1 : decode cX6_pack 1 = .ok (.ifCond .lt 12, 3) := by decide +kernel
theorem dX6_pack_4 : decode cX6_pack 4 = .ok (.iload_n 2, 1) := by decide +kernel
theorem dX6_pack_5 : decode cX6_pack 5 = .ok (.bipush 19, 2) := by decide +kernel
theorem dX6_pack_7 : decode cX6_pack 7 = .ok (.iadd, 1) := by decide +kernel
theorem dX6_pack_8 : decode cX6_pack 8 = .ok (.aload_n 1, 1) := by decide +kernel
theorem dX6_pack_9 : decode cX6_pack 9 = .ok (.arraylength, 1) := by decide +kernel
theorem dX6_pack_10 : decode cX6_pack 10 = .ok (.if_icmp .le 4, 3) := by decide +kernel
theorem dX6_pack_13 : decode cX6_pack 13 = .ok (.return_, 1) := by decide +kernel
theorem dX6_pack_14 : decode cX6_pack 14 = .ok (.aload_n 1, 1) := by decide +kernel
theorem dX6_pack_15 : decode cX6_pack 15 = .ok (.iload_n 2, 1) := by decide +kernel
theorem dX6_pack_16 : decode cX6_pack 16 = .ok (.aload_n 0, 1) := by decide +kernel
theorem dX6_pack_17 : decode cX6_pack 17 = .ok (.getfield 51, 3) := by decide +kernel
theorem dX6_pack_20 : decode cX6_pack 20 = .ok (.iastore, 1) := by decide +kernel
theorem dX6_pack_21 : decode cX6_pack 21 = .ok (.iconst 0, 1) := by decide +kernel
theorem dX6_pack_22 : decode cX6_pack 22 = .ok (.istore_n 3, 1) := by decide +kernel
theorem dX6_pack_23 : decode cX6_pack 23 = .ok (.iload_n 3, 1) := by decide +kernel
theorem dX6_pack_24 : decode cX6_pack 24 = .ok (.bipush 10, 2) := by decide +kernel
theorem dX6_pack_26 : decode cX6_pack 26 = .ok (.if_icmp .ge 53, 3) := by decide +kernel
theorem dX6_pack_29 : decode cX6_pack 29 = .ok (.aload_n 1, 1) := by decide +kernel
theorem dX6_pack_30 : decode cX6_pack 30 = .ok (.iload_n 2, 1) := by decide +kernel
theorem dX6_pack_31 : decode cX6_pack 31 = .ok (.iconst 1, 1) := by decide +kernel
theorem dX6_pack_32 : decode cX6_pack 32 = .ok (.iadd, 1) := by decide +kernel
theorem dX6_pack_33 : decode cX6_pack 33 = .ok (.iload_n 3, 1) := by decide +kernel
theorem dX6_pack_34 : decode cX6_pack 34 = .ok (.iadd, 1) := by decide +kernel
theorem dX6_pack_35 : decode cX6_pack 35 = .ok (.aload_n 0, 1) := by decide +kernel
theorem dX6_pack_36 : decode cX6_pack 36 = .ok (.getfield 27, 3) := by decide +kernel
theorem dX6_pack_39 : decode cX6_pack 39 = .ok (.iload_n 3, 1) := by decide +kernel
theorem dX6_pack_40 : decode cX6_pack 40 = .ok (.iaload, 1) := by decide +kernel
theorem dX6_pack_41 : decode cX6_pack 41 = .ok (.iconst 1, 1) := by decide +kernel
theorem dX6_pack_42 : decode cX6_pack 42 = .ok (.iadd, 1) := by decide +kernel
theorem dX6_pack_43 : decode cX6_pack 43 = .ok (.aload_n 0, 1) := by decide +kernel
theorem dX6_pack_44 : decode cX6_pack 44 = .ok (.getfield 24, 3) := by decide +kernel
theorem dX6_pack_47 : decode cX6_pack 47 = .ok (.iload_n 3, 1) := by decide +kernel
theorem dX6_pack_48 : decode cX6_pack 48 = .ok (.iaload, 1) := by decide +kernel
theorem dX6_pack_49 : decode cX6_pack 49 = .ok (.iconst 4, 1) := by decide +kernel
theorem dX6_pack_50 : decode cX6_pack 50 = .ok (.ishl, 1) := by decide +kernel
theorem dX6_pack_51 : decode cX6_pack 51 = .ok (.ior, 1) := by decide +kernel
theorem dX6_pack_52 : decode cX6_pack 52 = .ok (.aload_n 0, 1) := by decide +kernel
theorem dX6_pack_53 : decode cX6_pack 53 = .ok (.getfield 21, 3) := by decide +kernel
theorem dX6_pack_56 : decode cX6_pack 56 = .ok (.iload_n 3, 1) := by decide +kernel
theorem dX6_pack_57 : decode cX6_pack 57 = .ok (.iaload, 1) := by decide +kernel
theorem dX6_pack_58 : decode cX6_pack 58 = .ok (.bipush 8, 2) := by decide +kernel
theorem dX6_pack_60 : decode cX6_pack 60 = .ok (.ishl, 1) := by decide +kernel
theorem dX6_pack_61 : decode cX6_pack 61 = .ok (.ior, 1) := by decide +kernel
theorem dX6_pack_62 : decode cX6_pack 62 = .ok (.aload_n 0, 1) := by decide +kernel
theorem dX6_pack_63 : decode cX6_pack 63 = .ok (.getfield 30, 3) := by decide +kernel
theorem dX6_pack_66 : decode cX6_pack 66 = .ok (.iload_n 3, 1) := by decide +kernel
theorem dX6_pack_67 : decode cX6_pack 67 = .ok (.iaload, 1) := by decide +kernel
theorem dX6_pack_68 : decode cX6_pack 68 = .ok (.bipush 12, 2) := by decide +kernel
theorem dX6_pack_70 : decode cX6_pack 70 = .ok (.ishl, 1) := by decide +kernel
theorem dX6_pack_71 : decode cX6_pack 71 = .ok (.ior, 1) := by decide +kernel
theorem dX6_pack_72 : decode cX6_pack 72 = .ok (.iastore, 1) := by decide +kernel
theorem dX6_pack_73 : decode cX6_pack 73 = .ok (.iinc 3 1, 3) := by decide +kernel
theorem dX6_pack_76 : decode cX6_pack 76 = .ok (.goto (-53), 3) := by decide +kernel
theorem dX6_pack_79 : decode cX6_pack 79 = .ok (.iconst 0, 1) := by decide +kernel
theorem dX6_pack_80 : decode cX6_pack 80 = .ok (.istore_n 3, 1) := by decide +kernel
theorem dX6_pack_81 : decode cX6_pack 81 = .ok (.iload_n 3, 1) := by decide +kernel
theorem dX6_pack_82 : decode cX6_pack 82 = .ok (.bipush 8, 2) := by decide +kernel
theorem dX6_pack_84 : decode cX6_pack 84 = .ok (.if_icmp .ge 70, 3) := by decide +kernel
theorem dX6_pack_87 : decode cX6_pack 87 = .ok (.aload_n 0, 1) := by decide +kernel
theorem dX6_pack_88 : decode cX6_pack 88 = .ok (.getfield 15, 3) := by decide +kernel
theorem dX6_pack_91 : decode cX6_pack 91 = .ok (.iload_n 3, 1) := by decide +kernel
theorem dX6_pack_92 : decode cX6_pack 92 = .ok (.iaload, 1) := by decide +kernel
theorem dX6_pack_93 : decode cX6_pack 93 = .ok (.istore 4, 2) := by decide +kernel
theorem dX6_pack_95 : decode cX6_pack 95 = .ok (.iconst 0, 1) := by decide +kernel
theorem dX6_pack_96 : decode cX6_pack 96 = .ok (.istore 5, 2) := by decide +kernel
theorem dX6_pack_98 : decode cX6_pack 98 = .ok (.iload 5, 2) := by decide +kernel
theorem dX6_pack_100 : decode cX6_pack 100 = .ok (.bipush 6, 2) := by decide +kernel
theorem dX6_pack_102 : decode cX6_pack 102 = .ok (.if_icmp .ge 34, 3) := by decide +kernel
theorem dX6_pack_105 : decode cX6_pack 105 = .ok (.iload 4, 2) := by decide +kernel
theorem dX6_pack_107 : decode cX6_pack 107 = .ok (.aload_n 0, 1) := by decide +kernel
theorem dX6_pack_108 : decode cX6_pack 108 = .ok (.getfield 18, 3) := by decide +kernel
theorem dX6_pack_111 : decode cX6_pack 111 = .ok (.iload_n 3, 1) := by decide +kernel
theorem dX6_pack_112 : decode cX6_pack 112 = .ok (.bipush 6, 2) := by decide +kernel
theorem dX6_pack_114 : decode cX6_pack 114 = .ok (.imul, 1) := by decide +kernel
theorem dX6_pack_115 : decode cX6_pack 115 = .ok (.iload 5, 2) := by decide +kernel
theorem dX6_pack_117 : decode cX6_pack 117 = .ok (.iadd, 1) := by decide +kernel
theorem dX6_pack_118 : decode cX6_pack 118 = .ok (.iaload, 1) := by decide +kernel
theorem dX6_pack_119 : decode cX6_pack 119 = .ok (.bipush 7, 2) := by decide +kernel
theorem dX6_pack_121 : decode cX6_pack 121 = .ok (.iconst 3, 1) := by decide +kernel
theorem dX6_pack_122 : decode cX6_pack 122 = .ok (.iload 5, 2) := by decide +kernel
theorem dX6_pack_124 : decode cX6_pack 124 = .ok (.imul, 1) := by decide +kernel
theorem dX6_pack_125 : decode cX6_pack 125 = .ok (.iadd, 1) := by decide +kernel
theorem dX6_pack_126 : decode cX6_pack 126 = .ok (.ishl, 1) := by decide +kernel
theorem dX6_pack_127 : decode cX6_pack 127 = .ok (.ior, 1) := by decide +kernel
theorem dX6_pack_128 : decode cX6_pack 128 = .ok (.istore 4, 2) := by decide +kernel
theorem dX6_pack_130 : decode cX6_pack 130 = .ok (.iinc 5 1, 3) := by decide +kernel
theorem dX6_pack_133 : decode cX6_pack 133 = .ok (.goto (-35), 3) := by decide +kernel
theorem dX6_pack_136 : decode cX6_pack 136 = .ok (.aload_n 1, 1) := by decide +kernel
theorem dX6_pack_137 : decode cX6_pack 137 = .ok (.iload_n 2, 1) := by decide +kernel
theorem dX6_pack_138 : decode cX6_pack 138 = .ok (.iconst 1, 1) := by decide +kernel
theorem dX6_pack_139 : decode cX6_pack 139 = .ok (.iadd, 1) := by decide +kernel
theorem dX6_pack_140 : decode cX6_pack 140 = .ok (.bipush 10, 2) := by decide +kernel
theorem dX6_pack_142 : decode cX6_pack 142 = .ok (.iadd, 1) := by decide +kernel
theorem dX6_pack_143 : decode cX6_pack 143 = .ok (.iload_n 3, 1) := by decide +kernel
theorem dX6_pack_144 : decode cX6_pack 144 = .ok (.iadd, 1) := by decide +kernel
theorem dX6_pack_145 : decode cX6_pack 145 = .ok (.iload 4, 2) := by decide +kernel
theorem dX6_pack_147 : decode cX6_pack 147 = .ok (.iastore, 1) := by decide +kernel
theorem dX6_pack_148 : decode cX6_pack 148 = .ok (.iinc 3 1, 3) := by decide +kernel
theorem dX6_pack_151 : decode cX6_pack 151 = .ok (.goto (-70), 3) := by decide +kernel
theorem dX6_pack_154 : decode cX6_pack 154 = .ok (.return_, 1) := by decide +kernel
theorem dX6_unpack_0 : decode cX6_unpack 0 = .ok (.iload_n 2, 1) := by decide +kernel
theorem dX6_unpack_1 : decode cX6_unpack 1 = .ok (.ifCond .lt 12, 3) := by decide +kernel
theorem dX6_unpack_4 : decode cX6_unpack 4 = .ok (.iload_n 2, 1) := by decide +kernel
theorem dX6_unpack_5 : decode cX6_unpack 5 = .ok (.bipush 19, 2) := by decide +kernel
theorem dX6_unpack_7 : decode cX6_unpack 7 = .ok (.iadd, 1) := by decide +kernel
theorem dX6_unpack_8 : decode cX6_unpack 8 = .ok (.aload_n 1, 1) := by decide +kernel
theorem dX6_unpack_9 : decode cX6_unpack 9 = .ok (.arraylength, 1) := by decide +kernel
theorem dX6_unpack_10 : decode cX6_unpack 10 = .ok (.if_icmp .le 4, 3) := by decide +kernel
theorem dX6_unpack_13 : decode cX6_unpack 13 = .ok (.return_, 1) := by decide +kernel
theorem dX6_unpack_14 : decode cX6_unpack 14 = .ok (.aload_n 0, 1) := by decide +kernel
theorem dX6_unpack_15 : decode cX6_unpack 15 = .ok (.aload_n 1, 1) := by decide +kernel
theorem dX6_unpack_16 : decode cX6_unpack 16 = .ok (.iload_n 2, 1) := by decide +kernel
theorem dX6_unpack_17 : decode cX6_unpack 17 = .ok (.iaload, 1) := by decide +kernel
theorem dX6_unpack_18 : decode cX6_unpack 18 = .ok (.putfield 51, 3) := by decide +kernel
theorem dX6_unpack_21 : decode cX6_unpack 21 = .ok (.iconst 0, 1) := by decide +kernel
theorem dX6_unpack_22 : decode cX6_unpack 22 = .ok (.istore_n 3, 1) := by decide +kernel
theorem dX6_unpack_23 : decode cX6_unpack 23 = .ok (.iload_n 3, 1) := by decide +kernel
theorem dX6_unpack_24 : decode cX6_unpack 24 = .ok (.bipush 10, 2) := by decide +kernel
theorem dX6_unpack_26 : decode cX6_unpack 26 = .ok (.if_icmp .ge 69, 3) := by decide +kernel
theorem dX6_unpack_29 : decode cX6_unpack 29 = .ok (.aload_n 1, 1) := by decide +kernel
theorem dX6_unpack_30 : decode cX6_unpack 30 = .ok (.iload_n 2, 1) := by decide +kernel
theorem dX6_unpack_31 : decode cX6_unpack 31 = .ok (.iconst 1, 1) := by decide +kernel
theorem dX6_unpack_32 : decode cX6_unpack 32 = .ok (.iadd, 1) := by decide +kernel
theorem dX6_unpack_33 : decode cX6_unpack 33 = .ok (.iload_n 3, 1) := by decide +kernel
theorem dX6_unpack_34 : decode cX6_unpack 34 = .ok (.iadd, 1) := by decide +kernel
theorem dX6_unpack_35 : decode cX6_unpack 35 = .ok (.iaload, 1) := by decide +kernel
theorem dX6_unpack_36 : decode cX6_unpack 36 = .ok (.istore 4, 2) := by decide +kernel
theorem dX6_unpack_38 : decode cX6_unpack 38 = .ok (.aload_n 0, 1) := by decide +kernel
theorem dX6_unpack_39 : decode cX6_unpack 39 = .ok (.getfield 27, 3) := by decide +kernel
theorem dX6_unpack_42 : decode cX6_unpack 42 = .ok (.iload_n 3, 1) := by decide +kernel
theorem dX6_unpack_43 : decode cX6_unpack 43 = .ok (.iload 4, 2) := by decide +kernel
theorem dX6_unpack_45 : decode cX6_unpack 45 = .ok (.bipush 15, 2) := by decide +kernel
theorem dX6_unpack_47 : decode cX6_unpack 47 = .ok (.iand, 1) := by decide +kernel
theorem dX6_unpack_48 : decode cX6_unpack 48 = .ok (.iconst 1, 1) := by decide +kernel
theorem dX6_unpack_49 : decode cX6_unpack 49 = .ok (.isub, 1) := by decide +kernel
theorem dX6_unpack_50 : decode cX6_unpack 50 = .ok (.iastore, 1) := by decide +kernel
theorem dX6_unpack_51 : decode cX6_unpack 51 = .ok (.aload_n 0, 1) := by decide +kernel
theorem dX6_unpack_52 : decode cX6_unpack 52 = .ok (.getfield 24, 3) := by decide +kernel
theorem dX6_unpack_55 : decode cX6_unpack 55 = .ok (.iload_n 3, 1) := by decide +kernel
theorem dX6_unpack_56 : decode cX6_unpack 56 = .ok (.iload 4, 2) := by decide +kernel
theorem dX6_unpack_58 : decode cX6_unpack 58 = .ok (.iconst 4, 1) := by decide +kernel
theorem dX6_unpack_59 : decode cX6_unpack 59 = .ok (.ishr, 1) := by decide +kernel
theorem dX6_unpack_60 : decode cX6_unpack 60 = .ok (.bipush 15, 2) := by decide +kernel
theorem dX6_unpack_62 : decode cX6_unpack 62 = .ok (.iand, 1) := by decide +kernel
theorem dX6_unpack_63 : decode cX6_unpack 63 = .ok (.iastore, 1) := by decide +kernel
theorem dX6_unpack_64 : decode cX6_unpack 64 = .ok (.aload_n 0, 1) := by decide +kernel
theorem dX6_unpack_65 : decode cX6_unpack 65 = .ok (.getfield 21, 3) := by decide +kernel
theorem dX6_unpack_68 : decode cX6_unpack 68 = .ok (.iload_n 3, 1) := by decide +kernel
theorem dX6_unpack_69 : decode cX6_unpack 69 = .ok (.iload 4, 2) := by decide +kernel
theorem dX6_unpack_71 : decode cX6_unpack 71 = .ok (.bipush 8, 2) := by decide +kernel
theorem dX6_unpack_73 : decode cX6_unpack 73 = .ok (.ishr, 1) := by decide +kernel
theorem dX6_unpack_74 : decode cX6_unpack 74 = .ok (.bipush 15, 2) := by decide +kernel
theorem dX6_unpack_76 : decode cX6_unpack 76 = .ok (.iand, 1) := by decide +kernel
theorem dX6_unpack_77 : decode cX6_unpack 77 = .ok (.iastore, 1) := by decide +kernel
theorem dX6_unpack_78 : decode cX6_unpack 78 = .ok (.aload_n 0, 1) := by decide +kernel
theorem dX6_unpack_79 : decode cX6_unpack 79 = .ok (.getfield 30, 3) := by decide +kernel
theorem dX6_unpack_82 : decode cX6_unpack 82 = .ok (.iload_n 3, 1) := by decide +kernel
theorem dX6_unpack_83 : decode cX6_unpack 83 = .ok (.iload 4, 2) := by decide +kernel
theorem dX6_unpack_85 : decode cX6_unpack 85 = .ok (.bipush 12, 2) := by decide +kernel
theorem dX6_unpack_87 : decode cX6_unpack 87 = .ok (.ishr, 1) := by decide +kernel
theorem dX6_unpack_88 : decode cX6_unpack 88 = .ok (.iastore, 1) := by decide +kernel
theorem dX6_unpack_89 : decode cX6_unpack 89 = .ok (.iinc 3 1, 3) := by decide +kernel
theorem dX6_unpack_92 : decode cX6_unpack 92 = .ok (.goto (-69), 3) := by decide +kernel
theorem dX6_unpack_95 : decode cX6_unpack 95 = .ok (.iconst 0, 1) := by decide +kernel
theorem dX6_unpack_96 : decode cX6_unpack 96 = .ok (.istore_n 3, 1) := by decide +kernel
theorem dX6_unpack_97 : decode cX6_unpack 97 = .ok (.iload_n 3, 1) := by decide +kernel
theorem dX6_unpack_98 : decode cX6_unpack 98 = .ok (.bipush 8, 2) := by decide +kernel
theorem dX6_unpack_100 : decode cX6_unpack 100 = .ok (.if_icmp .ge 73, 3) := by decide +kernel
theorem dX6_unpack_103 : decode cX6_unpack 103 = .ok (.aload_n 1, 1) := by decide +kernel
theorem dX6_unpack_104 : decode cX6_unpack 104 = .ok (.iload_n 2, 1) := by decide +kernel
theorem dX6_unpack_105 : decode cX6_unpack 105 = .ok (.iconst 1, 1) := by decide +kernel
theorem dX6_unpack_106 : decode cX6_unpack 106 = .ok (.iadd, 1) := by decide +kernel
theorem dX6_unpack_107 : decode cX6_unpack 107 = .ok (.bipush 10, 2) := by decide +kernel
theorem dX6_unpack_109 : decode cX6_unpack 109 = .ok (.iadd, 1) := by decide +kernel
theorem dX6_unpack_110 : decode cX6_unpack 110 = .ok (.iload_n 3, 1) := by decide +kernel
theorem dX6_unpack_111 : decode cX6_unpack 111 = .ok (.iadd, 1) := by decide +kernel
theorem dX6_unpack_112 : decode cX6_unpack 112 = .ok (.iaload, 1) := by decide +kernel
theorem dX6_unpack_113 : decode cX6_unpack 113 = .ok (.istore 4, 2) := by decide +kernel
theorem dX6_unpack_115 : decode cX6_unpack 115 = .ok (.aload_n 0, 1) := by decide +kernel
theorem dX6_unpack_116 : decode cX6_unpack 116 = .ok (.getfield 15, 3) := by decide +kernel
theorem dX6_unpack_119 : decode cX6_unpack 119 = .ok (.iload_n 3, 1) := by decide +kernel
theorem dX6_unpack_120 : decode cX6_unpack 120 = .ok (.iload 4, 2) := by decide +kernel
theorem dX6_unpack_122 : decode cX6_unpack 122 = .ok (.bipush 127, 2) := by decide +kernel
theorem dX6_unpack_124 : decode cX6_unpack 124 = .ok (.iand, 1) := by decide +kernel
theorem dX6_unpack_125 : decode cX6_unpack 125 = .ok (.iastore, 1) := by decide +kernel
theorem dX6_unpack_126 : decode cX6_unpack 126 = .ok (.iconst 0, 1) := by decide +kernel
theorem dX6_unpack_127 : decode cX6_unpack 127 = .ok (.istore 5, 2) := by decide +kernel
theorem dX6_unpack_129 : decode cX6_unpack 129 = .ok (.iload 5, 2) := by decide +kernel
theorem dX6_unpack_131 : decode cX6_unpack 131 = .ok (.bipush 6, 2) := by decide +kernel
theorem dX6_unpack_133 : decode cX6_unpack 133 = .ok (.if_icmp .ge 34, 3) := by decide +kernel
theorem dX6_unpack_136 : decode cX6_unpack 136 = .ok (.aload_n 0, 1) := by decide +kernel
theorem dX6_unpack_137 : decode cX6_unpack 137 = .ok (.getfield 18, 3) := by decide +kernel
theorem dX6_unpack_140 : decode cX6_unpack 140 = .ok (.iload_n 3, 1) := by decide +kernel
theorem dX6_unpack_141 : decode cX6_unpack 141 = .ok (.bipush 6, 2) := by decide +kernel
theorem dX6_unpack_143 : decode cX6_unpack 143 = .ok (.imul, 1) := by decide +kernel
theorem dX6_unpack_144 : decode cX6_unpack 144 = .ok (.iload 5, 2) := by decide +kernel
theorem dX6_unpack_146 : decode cX6_unpack 146 = .ok (.iadd, 1) := by decide +kernel
theorem dX6_unpack_147 : decode cX6_unpack 147 = .ok (.iload 4, 2) := by decide +kernel
theorem dX6_unpack_149 : decode cX6_unpack 149 = .ok (.bipush 7, 2) := by decide +kernel
theorem dX6_unpack_151 : decode cX6_unpack 151 = .ok (.iconst 3, 1) := by decide +kernel
theorem dX6_unpack_152 : decode cX6_unpack 152 = .ok (.iload 5, 2) := by decide +kernel
theorem dX6_unpack_154 : decode cX6_unpack 154 = .ok (.imul, 1) := by decide +kernel
theorem dX6_unpack_155 : decode cX6_unpack 155 = .ok (.iadd, 1) := by decide +kernel
theorem dX6_unpack_156 : decode cX6_unpack 156 = .ok (.ishr, 1) := by decide +kernel
theorem dX6_unpack_157 : decode cX6_unpack 157 = .ok (.bipush 7, 2) := by decide +kernel
theorem dX6_unpack_159 : decode cX6_unpack 159 = .ok (.iand, 1) := by decide +kernel
theorem dX6_unpack_160 : decode cX6_unpack 160 = .ok (.iastore, 1) := by decide +kernel
theorem dX6_unpack_161 : decode cX6_unpack 161 = .ok (.iinc 5 1, 3) := by decide +kernel
theorem dX6_unpack_164 : decode cX6_unpack 164 = .ok (.goto (-35), 3) := by decide +kernel
theorem dX6_unpack_167 : decode cX6_unpack 167 = .ok (.iinc 3 1, 3) := by decide +kernel
theorem dX6_unpack_170 : decode cX6_unpack 170 = .ok (.goto (-73), 3) := by decide +kernel
theorem dX6_unpack_173 : decode cX6_unpack 173 = .ok (.return_, 1) := by decide +kernel
theorem dX6_passDay_0 : decode cX6_passDay 0 = .ok (.aload_n 0, 1) := by decide +kernel
theorem dX6_passDay_1 : decode cX6_passDay 1 = .ok (.aload_n 0, 1) := by decide +kernel
theorem dX6_passDay_2 : decode cX6_passDay 2 = .ok (.getfield 51, 3) := by decide +kernel
theorem dX6_passDay_5 : decode cX6_passDay 5 = .ok (.invokevirtual 87, 3) := by decide +kernel
theorem dX6_passDay_8 : decode cX6_passDay 8 = .ok (.iconst 0, 1) := by decide +kernel
theorem dX6_passDay_9 : decode cX6_passDay 9 = .ok (.istore_n 2, 1) := by decide +kernel
theorem dX6_passDay_10 : decode cX6_passDay 10 = .ok (.iload_n 2, 1) := by decide +kernel
theorem dX6_passDay_11 : decode cX6_passDay 11 = .ok (.aload_n 0, 1) := by decide +kernel
theorem dX6_passDay_12 : decode cX6_passDay 12 = .ok (.getfield 47, 3) := by decide +kernel
theorem dX6_passDay_15 : decode cX6_passDay 15 = .ok (.getfield 91, 3) := by decide +kernel
theorem dX6_passDay_18 : decode cX6_passDay 18 = .ok (.if_icmp .ge 46, 3) := by decide +kernel
theorem dX6_passDay_21 : decode cX6_passDay 21 = .ok (.aload_n 0, 1) := by decide +kernel
theorem dX6_passDay_22 : decode cX6_passDay 22 = .ok (.getfield 27, 3) := by decide +kernel
theorem dX6_passDay_25 : decode cX6_passDay 25 = .ok (.iload_n 2, 1) := by decide +kernel
theorem dX6_passDay_26 : decode cX6_passDay 26 = .ok (.iaload, 1) := by decide +kernel
theorem dX6_passDay_27 : decode cX6_passDay 27 = .ok (.iconst (-1), 1) := by decide +kernel
theorem dX6_passDay_28 : decode cX6_passDay 28 = .ok (.if_icmp .eq 30, 3) := by decide +kernel
theorem dX6_passDay_31 : decode cX6_passDay 31 = .ok (.aload_n 0, 1) := by decide +kernel
theorem dX6_passDay_32 : decode cX6_passDay 32 = .ok (.iload_n 2, 1) := by decide +kernel
theorem dX6_passDay_33 : decode cX6_passDay 33 = .ok (.iload_n 1, 1) := by decide +kernel
theorem dX6_passDay_34 : decode cX6_passDay 34 = .ok (.ifCond .eq 7, 3) := by decide +kernel
theorem dX6_passDay_37 : decode cX6_passDay 37 = .ok (.iconst 0, 1) := by decide +kernel
theorem dX6_passDay_38 : decode cX6_passDay 38 = .ok (.goto 17, 3) := by decide +kernel
theorem dX6_passDay_41 : decode cX6_passDay 41 = .ok (.aload_n 0, 1) := by decide +kernel
theorem dX6_passDay_42 : decode cX6_passDay 42 = .ok (.aload_n 0, 1) := by decide +kernel
theorem dX6_passDay_43 : decode cX6_passDay 43 = .ok (.getfield 27, 3) := by decide +kernel
theorem dX6_passDay_46 : decode cX6_passDay 46 = .ok (.iload_n 2, 1) := by decide +kernel
theorem dX6_passDay_47 : decode cX6_passDay 47 = .ok (.iaload, 1) := by decide +kernel
theorem dX6_passDay_48 : decode cX6_passDay 48 = .ok (.aload_n 0, 1) := by decide +kernel
theorem dX6_passDay_49 : decode cX6_passDay 49 = .ok (.getfield 51, 3) := by decide +kernel
theorem dX6_passDay_52 : decode cX6_passDay 52 = .ok (.invokevirtual 94, 3) := by decide +kernel
theorem dX6_passDay_55 : decode cX6_passDay 55 = .ok (.invokevirtual 97, 3) := by decide +kernel
theorem dX6_passDay_58 : decode cX6_passDay 58 = .ok (.iinc 2 1, 3) := by decide +kernel
theorem dX6_passDay_61 : decode cX6_passDay 61 = .ok (.goto (-51), 3) := by decide +kernel
theorem dX6_passDay_64 : decode cX6_passDay 64 = .ok (.aload_n 0, 1) := by decide +kernel
theorem dX6_passDay_65 : decode cX6_passDay 65 = .ok (.invokevirtual 101, 3) := by decide +kernel
theorem dX6_passDay_68 : decode cX6_passDay 68 = .ok (.iconst 0, 1) := by decide +kernel
theorem dX6_passDay_69 : decode cX6_passDay 69 = .ok (.istore_n 2, 1) := by decide +kernel
theorem dX6_passDay_70 : decode cX6_passDay 70 = .ok (.iload_n 2, 1) := by decide +kernel
theorem dX6_passDay_71 : decode cX6_passDay 71 = .ok (.aload_n 0, 1) := by decide +kernel
theorem dX6_passDay_72 : decode cX6_passDay 72 = .ok (.getfield 47, 3) := by decide +kernel
theorem dX6_passDay_75 : decode cX6_passDay 75 = .ok (.getfield 104, 3) := by decide +kernel
theorem dX6_passDay_78 : decode cX6_passDay 78 = .ok (.if_icmp .ge 72, 3) := by decide +kernel
theorem dX6_passDay_81 : decode cX6_passDay 81 = .ok (.aload_n 0, 1) := by decide +kernel
theorem dX6_passDay_82 : decode cX6_passDay 82 = .ok (.getfield 36, 3) := by decide +kernel
theorem dX6_passDay_85 : decode cX6_passDay 85 = .ok (.iload_n 2, 1) := by decide +kernel
theorem dX6_passDay_86 : decode cX6_passDay 86 = .ok (.iaload, 1) := by decide +kernel
theorem dX6_passDay_87 : decode cX6_passDay 87 = .ok (.ifCond .le 30, 3) := by decide +kernel
theorem dX6_passDay_90 : decode cX6_passDay 90 = .ok (.aload_n 0, 1) := by decide +kernel
theorem dX6_passDay_91 : decode cX6_passDay 91 = .ok (.iload_n 2, 1) := by decide +kernel
theorem dX6_passDay_92 : decode cX6_passDay 92 = .ok (.invokevirtual 107, 3) := by decide +kernel
theorem dX6_passDay_95 : decode cX6_passDay 95 = .ok (.ifCond .eq 22, 3) := by decide +kernel
theorem dX6_passDay_98 : decode cX6_passDay 98 = .ok (.aload_n 0, 1) := by decide +kernel
theorem dX6_passDay_99 : decode cX6_passDay 99 = .ok (.iload_n 2, 1) := by decide +kernel
theorem dX6_passDay_100 : decode cX6_passDay 100 = .ok (.invokevirtual 111, 3) := by decide +kernel
theorem dX6_passDay_103 : decode cX6_passDay 103 = .ok (.aload_n 0, 1) := by decide +kernel
theorem dX6_passDay_104 : decode cX6_passDay 104 = .ok (.getfield 15, 3) := by decide +kernel
theorem dX6_passDay_107 : decode cX6_passDay 107 = .ok (.iload_n 2, 1) := by decide +kernel
theorem dX6_passDay_108 : decode cX6_passDay 108 = .ok (.iconst 0, 1) := by decide +kernel
theorem dX6_passDay_109 : decode cX6_passDay 109 = .ok (.iastore, 1) := by decide +kernel
theorem dX6_passDay_110 : decode cX6_passDay 110 = .ok (.aload_n 0, 1) := by decide +kernel
theorem dX6_passDay_111 : decode cX6_passDay 111 = .ok (.getfield 36, 3) := by decide +kernel
theorem dX6_passDay_114 : decode cX6_passDay 114 = .ok (.iload_n 2, 1) := by decide +kernel
theorem dX6_passDay_115 : decode cX6_passDay 115 = .ok (.iconst 0, 1) := by decide +kernel
theorem dX6_passDay_116 : decode cX6_passDay 116 = .ok (.iastore, 1) := by decide +kernel
theorem dX6_passDay_117 : decode cX6_passDay 117 = .ok (.aload_n 0, 1) := by decide +kernel
theorem dX6_passDay_118 : decode cX6_passDay 118 = .ok (.getfield 36, 3) := by decide +kernel
theorem dX6_passDay_121 : decode cX6_passDay 121 = .ok (.iload_n 2, 1) := by decide +kernel
theorem dX6_passDay_122 : decode cX6_passDay 122 = .ok (.iaload, 1) := by decide +kernel
theorem dX6_passDay_123 : decode cX6_passDay 123 = .ok (.ifCond .ne 21, 3) := by decide +kernel
theorem dX6_passDay_126 : decode cX6_passDay 126 = .ok (.aload_n 0, 1) := by decide +kernel
theorem dX6_passDay_127 : decode cX6_passDay 127 = .ok (.getfield 15, 3) := by decide +kernel
theorem dX6_passDay_130 : decode cX6_passDay 130 = .ok (.iload_n 2, 1) := by decide +kernel
theorem dX6_passDay_131 : decode cX6_passDay 131 = .ok (.iconst 0, 1) := by decide +kernel
theorem dX6_passDay_132 : decode cX6_passDay 132 = .ok (.aload_n 0, 1) := by decide +kernel
theorem dX6_passDay_133 : decode cX6_passDay 133 = .ok (.getfield 15, 3) := by decide +kernel
theorem dX6_passDay_136 : decode cX6_passDay 136 = .ok (.iload_n 2, 1) := by decide +kernel
theorem dX6_passDay_137 : decode cX6_passDay 137 = .ok (.iaload, 1) := by decide +kernel
theorem dX6_passDay_138 : decode cX6_passDay 138 = .ok (.iconst 2, 1) := by decide +kernel
theorem dX6_passDay_139 : decode cX6_passDay 139 = .ok (.isub, 1) := by decide +kernel
theorem dX6_passDay_140 : decode cX6_passDay 140 = .ok (.invokestatic 114, 3) := by decide +kernel
theorem dX6_passDay_143 : decode cX6_passDay 143 = .ok (.iastore, 1) := by decide +kernel
theorem dX6_passDay_144 : decode cX6_passDay 144 = .ok (.iinc 2 1, 3) := by decide +kernel
theorem dX6_passDay_147 : decode cX6_passDay 147 = .ok (.goto (-77), 3) := by decide +kernel
theorem dX6_passDay_150 : decode cX6_passDay 150 = .ok (.aload_n 0, 1) := by decide +kernel
theorem dX6_passDay_151 : decode cX6_passDay 151 = .ok (.dup, 1) := by decide +kernel
theorem dX6_passDay_152 : decode cX6_passDay 152 = .ok (.getfield 51, 3) := by decide +kernel
theorem dX6_passDay_155 : decode cX6_passDay 155 = .ok (.iconst 1, 1) := by decide +kernel
theorem dX6_passDay_156 : decode cX6_passDay 156 = .ok (.iadd, 1) := by decide +kernel
theorem dX6_passDay_157 : decode cX6_passDay 157 = .ok (.putfield 51, 3) := by decide +kernel
theorem dX6_passDay_160 : decode cX6_passDay 160 = .ok (.return_, 1) := by decide +kernel
theorem dX6_countWorn_0 : decode cX6_countWorn 0 = .ok (.aload_n 0, 1) := by decide +kernel
theorem dX6_countWorn_1 : decode cX6_countWorn 1 = .ok (.getfield 36, 3) := by decide +kernel
theorem dX6_countWorn_4 : decode cX6_countWorn 4 = .ok (.iconst 0, 1) := by decide +kernel
theorem dX6_countWorn_5 : decode cX6_countWorn 5 = .ok (.invokestatic 65, 3) := by decide +kernel
theorem dX6_countWorn_8 : decode cX6_countWorn 8 = .ok (.iconst 0, 1) := by decide +kernel
theorem dX6_countWorn_9 : decode cX6_countWorn 9 = .ok (.istore_n 1, 1) := by decide +kernel
theorem dX6_countWorn_10 : decode cX6_countWorn 10 = .ok (.iload_n 1, 1) := by decide +kernel
theorem dX6_countWorn_11 : decode cX6_countWorn 11 = .ok (.aload_n 0, 1) := by decide +kernel
theorem dX6_countWorn_12 : decode cX6_countWorn 12 = .ok (.getfield 47, 3) := by decide +kernel
theorem dX6_countWorn_15 : decode cX6_countWorn 15 = .ok (.getfield 91, 3) := by decide +kernel
theorem dX6_countWorn_18 : decode cX6_countWorn 18 = .ok (.if_icmp .ge 34, 3) := by decide +kernel
theorem dX6_countWorn_21 : decode cX6_countWorn 21 = .ok (.aload_n 0, 1) := by decide +kernel
theorem dX6_countWorn_22 : decode cX6_countWorn 22 = .ok (.getfield 27, 3) := by decide +kernel
theorem dX6_countWorn_25 : decode cX6_countWorn 25 = .ok (.iload_n 1, 1) := by decide +kernel
theorem dX6_countWorn_26 : decode cX6_countWorn 26 = .ok (.iaload, 1) := by decide +kernel
theorem dX6_countWorn_27 : decode cX6_countWorn 27 = .ok (.iconst (-1), 1) := by decide +kernel
theorem dX6_countWorn_28 : decode cX6_countWorn 28 = .ok (.if_icmp .eq 18, 3) := by decide +kernel
theorem dX6_countWorn_31 : decode cX6_countWorn 31 = .ok (.aload_n 0, 1) := by decide +kernel
theorem dX6_countWorn_32 : decode cX6_countWorn 32 = .ok (.getfield 36, 3) := by decide +kernel
theorem dX6_countWorn_35 : decode cX6_countWorn 35 = .ok (.aload_n 0, 1) := by decide +kernel
theorem dX6_countWorn_36 : decode cX6_countWorn 36 = .ok (.getfield 27, 3) := by decide +kernel
theorem dX6_countWorn_39 : decode cX6_countWorn 39 = .ok (.iload_n 1, 1) := by decide +kernel
theorem dX6_countWorn_40 : decode cX6_countWorn 40 = .ok (.iaload, 1) := by decide +kernel
theorem dX6_countWorn_41 : decode cX6_countWorn 41 = .ok (.dup2, 1) := by decide +kernel
theorem dX6_countWorn_42 : decode cX6_countWorn 42 = .ok (.iaload, 1) := by decide +kernel
theorem dX6_countWorn_43 : decode cX6_countWorn 43 = .ok (.iconst 1, 1) := by decide +kernel
theorem dX6_countWorn_44 : decode cX6_countWorn 44 = .ok (.iadd, 1) := by decide +kernel
theorem dX6_countWorn_45 : decode cX6_countWorn 45 = .ok (.iastore, 1) := by decide +kernel
theorem dX6_countWorn_46 : decode cX6_countWorn 46 = .ok (.iinc 1 1, 3) := by decide +kernel
theorem dX6_countWorn_49 : decode cX6_countWorn 49 = .ok (.goto (-39), 3) := by decide +kernel
theorem dX6_countWorn_52 : decode cX6_countWorn 52 = .ok (.return_, 1) := by decide +kernel
theorem dX6_wearForADay_0 : decode cX6_wearForADay 0 = .ok (.aload_n 0, 1) := by decide +kernel
theorem dX6_wearForADay_1 : decode cX6_wearForADay 1 = .ok (.getfield 27, 3) := by decide +kernel
theorem dX6_wearForADay_4 : decode cX6_wearForADay 4 = .ok (.iload_n 1, 1) := by decide +kernel
theorem dX6_wearForADay_5 : decode cX6_wearForADay 5 = .ok (.iaload, 1) := by decide +kernel
theorem dX6_wearForADay_6 : decode cX6_wearForADay 6 = .ok (.istore_n 3, 1) := by decide +kernel
theorem dX6_wearForADay_7 : decode cX6_wearForADay 7 = .ok (.aload_n 0, 1) := by decide +kernel
theorem dX6_wearForADay_8 : decode cX6_wearForADay 8 = .ok (.getfield 15, 3) := by decide +kernel
theorem dX6_wearForADay_11 : decode cX6_wearForADay 11 = .ok (.iload_n 3, 1) := by decide +kernel
theorem dX6_wearForADay_12 : decode cX6_wearForADay 12 = .ok (.bipush 99, 2) := by decide +kernel
theorem dX6_wearForADay_14 : decode cX6_wearForADay 14 = .ok (.aload_n 0, 1) := by decide +kernel
theorem dX6_wearForADay_15 : decode cX6_wearForADay 15 = .ok (.getfield 15, 3) := by decide +kernel
theorem dX6_wearForADay_18 : decode cX6_wearForADay 18 = .ok (.iload_n 3, 1) := by decide +kernel
theorem dX6_wearForADay_19 : decode cX6_wearForADay 19 = .ok (.iaload, 1) := by decide +kernel
theorem dX6_wearForADay_20 : decode cX6_wearForADay 20 = .ok (.aload_n 0, 1) := by decide +kernel
theorem dX6_wearForADay_21 : decode cX6_wearForADay 21 = .ok (.iload_n 1, 1) := by decide +kernel
theorem dX6_wearForADay_22 : decode cX6_wearForADay 22 = .ok (.iload_n 2, 1) := by decide +kernel
theorem dX6_wearForADay_23 : decode cX6_wearForADay 23 = .ok (.invokevirtual 117, 3) := by decide +kernel
theorem dX6_wearForADay_26 : decode cX6_wearForADay 26 = .ok (.iadd, 1) := by decide +kernel
theorem dX6_wearForADay_27 : decode cX6_wearForADay 27 = .ok (.invokestatic 75, 3) := by decide +kernel
theorem dX6_wearForADay_30 : decode cX6_wearForADay 30 = .ok (.iastore, 1) := by decide +kernel
theorem dX6_wearForADay_31 : decode cX6_wearForADay 31 = .ok (.iload_n 2, 1) := by decide +kernel
theorem dX6_wearForADay_32 : decode cX6_wearForADay 32 = .ok (.ifCond .ne 4, 3) := by decide +kernel
theorem dX6_wearForADay_35 : decode cX6_wearForADay 35 = .ok (.return_, 1) := by decide +kernel
theorem dX6_wearForADay_36 : decode cX6_wearForADay 36 = .ok (.aload_n 0, 1) := by decide +kernel
theorem dX6_wearForADay_37 : decode cX6_wearForADay 37 = .ok (.getfield 30, 3) := by decide +kernel
theorem dX6_wearForADay_40 : decode cX6_wearForADay 40 = .ok (.iload_n 1, 1) := by decide +kernel
theorem dX6_wearForADay_41 : decode cX6_wearForADay 41 = .ok (.dup2, 1) := by decide +kernel
theorem dX6_wearForADay_42 : decode cX6_wearForADay 42 = .ok (.iaload, 1) := by decide +kernel
theorem dX6_wearForADay_43 : decode cX6_wearForADay 43 = .ok (.iconst 1, 1) := by decide +kernel
theorem dX6_wearForADay_44 : decode cX6_wearForADay 44 = .ok (.iadd, 1) := by decide +kernel
theorem dX6_wearForADay_45 : decode cX6_wearForADay 45 = .ok (.iastore, 1) := by decide +kernel
theorem dX6_wearForADay_46 : decode cX6_wearForADay 46 = .ok (.aload_n 0, 1) := by decide +kernel
theorem dX6_wearForADay_47 : decode cX6_wearForADay 47 = .ok (.getfield 30, 3) := by decide +kernel
theorem dX6_wearForADay_50 : decode cX6_wearForADay 50 = .ok (.iload_n 1, 1) := by decide +kernel
theorem dX6_wearForADay_51 : decode cX6_wearForADay 51 = .ok (.iaload, 1) := by decide +kernel
theorem dX6_wearForADay_52 : decode cX6_wearForADay 52 = .ok (.aload_n 0, 1) := by decide +kernel
theorem dX6_wearForADay_53 : decode cX6_wearForADay 53 = .ok (.getfield 47, 3) := by decide +kernel
theorem dX6_wearForADay_56 : decode cX6_wearForADay 56 = .ok (.getfield 120, 3) := by decide +kernel
theorem dX6_wearForADay_59 : decode cX6_wearForADay 59 = .ok (.if_icmp .lt 26, 3) := by decide +kernel
theorem dX6_wearForADay_62 : decode cX6_wearForADay 62 = .ok (.aload_n 0, 1) := by decide +kernel
theorem dX6_wearForADay_63 : decode cX6_wearForADay 63 = .ok (.getfield 24, 3) := by decide +kernel
theorem dX6_wearForADay_66 : decode cX6_wearForADay 66 = .ok (.iload_n 1, 1) := by decide +kernel
theorem dX6_wearForADay_67 : decode cX6_wearForADay 67 = .ok (.iload_n 3, 1) := by decide +kernel
theorem dX6_wearForADay_68 : decode cX6_wearForADay 68 = .ok (.iastore, 1) := by decide +kernel
theorem dX6_wearForADay_69 : decode cX6_wearForADay 69 = .ok (.aload_n 0, 1) := by decide +kernel
theorem dX6_wearForADay_70 : decode cX6_wearForADay 70 = .ok (.iconst (-1), 1) := by decide +kernel
theorem dX6_wearForADay_71 : decode cX6_wearForADay 71 = .ok (.iload_n 1, 1) := by decide +kernel
theorem dX6_wearForADay_72 : decode cX6_wearForADay 72 = .ok (.invokevirtual 123, 3) := by decide +kernel
theorem dX6_wearForADay_75 : decode cX6_wearForADay 75 = .ok (.aload_n 0, 1) := by decide +kernel
theorem dX6_wearForADay_76 : decode cX6_wearForADay 76 = .ok (.dup, 1) := by decide +kernel
theorem dX6_wearForADay_77 : decode cX6_wearForADay 77 = .ok (.getfield 55, 3) := by decide +kernel
theorem dX6_wearForADay_80 : decode cX6_wearForADay 80 = .ok (.iconst 1, 1) := by decide +kernel
theorem dX6_wearForADay_81 : decode cX6_wearForADay 81 = .ok (.iadd, 1) := by decide +kernel
theorem dX6_wearForADay_82 : decode cX6_wearForADay 82 = .ok (.putfield 55, 3) := by decide +kernel
theorem dX6_wearForADay_85 : decode cX6_wearForADay 85 = .ok (.return_, 1) := by decide +kernel
theorem dX6_shameToday_0 : decode cX6_shameToday 0 = .ok (.aload_n 0, 1) := by decide +kernel
theorem dX6_shameToday_1 : decode cX6_shameToday 1 = .ok (.getfield 27, 3) := by decide +kernel
theorem dX6_shameToday_4 : decode cX6_shameToday 4 = .ok (.iload_n 1, 1) := by decide +kernel
theorem dX6_shameToday_5 : decode cX6_shameToday 5 = .ok (.iaload, 1) := by decide +kernel
theorem dX6_shameToday_6 : decode cX6_shameToday 6 = .ok (.istore_n 2, 1) := by decide +kernel
theorem dX6_shameToday_7 : decode cX6_shameToday 7 = .ok (.iload_n 2, 1) := by decide +kernel
theorem dX6_shameToday_8 : decode cX6_shameToday 8 = .ok (.iconst (-1), 1) := by decide +kernel
theorem dX6_shameToday_9 : decode cX6_shameToday 9 = .ok (.if_icmp .ne 7, 3) := by decide +kernel
theorem dX6_shameToday_12 : decode cX6_shameToday 12 = .ok (.iconst 0, 1) := by decide +kernel
theorem dX6_shameToday_13 : decode cX6_shameToday 13 = .ok (.goto 17, 3) := by decide +kernel
theorem dX6_shameToday_16 : decode cX6_shameToday 16 = .ok (.aload_n 0, 1) := by decide +kernel
theorem dX6_shameToday_17 : decode cX6_shameToday 17 = .ok (.iload_n 1, 1) := by decide +kernel
theorem dX6_shameToday_18 : decode cX6_shameToday 18 = .ok (.aload_n 0, 1) := by decide +kernel
theorem dX6_shameToday_19 : decode cX6_shameToday 19 = .ok (.iload_n 2, 1) := by decide +kernel
theorem dX6_shameToday_20 : decode cX6_shameToday 20 = .ok (.aload_n 0, 1) := by decide +kernel
theorem dX6_shameToday_21 : decode cX6_shameToday 21 = .ok (.getfield 51, 3) := by decide +kernel
theorem dX6_shameToday_24 : decode cX6_shameToday 24 = .ok (.invokevirtual 126, 3) := by decide +kernel
theorem dX6_shameToday_27 : decode cX6_shameToday 27 = .ok (.invokevirtual 117, 3) := by decide +kernel
theorem dX6_shameToday_30 : decode cX6_shameToday 30 = .ok (.ireturn, 1) := by decide +kernel
theorem dX6_shameBy_0 : decode cX6_shameBy 0 = .ok (.aload_n 0, 1) := by decide +kernel
theorem dX6_shameBy_1 : decode cX6_shameBy 1 = .ok (.getfield 27, 3) := by decide +kernel
theorem dX6_shameBy_4 : decode cX6_shameBy 4 = .ok (.iload_n 1, 1) := by decide +kernel
theorem dX6_shameBy_5 : decode cX6_shameBy 5 = .ok (.iaload, 1) := by decide +kernel
theorem dX6_shameBy_6 : decode cX6_shameBy 6 = .ok (.istore_n 3, 1) := by decide +kernel
theorem dX6_shameBy_7 : decode cX6_shameBy 7 = .ok (.iload_n 2, 1) := by decide +kernel
theorem dX6_shameBy_8 : decode cX6_shameBy 8 = .ok (.invokestatic 129, 3) := by decide +kernel
theorem dX6_shameBy_11 : decode cX6_shameBy 11 = .ok (.istore 4, 2) := by decide +kernel
theorem dX6_shameBy_13 : decode cX6_shameBy 13 = .ok (.aload_n 0, 1) := by decide +kernel
theorem dX6_shameBy_14 : decode cX6_shameBy 14 = .ok (.getfield 21, 3) := by decide +kernel
theorem dX6_shameBy_17 : decode cX6_shameBy 17 = .ok (.iload_n 1, 1) := by decide +kernel
theorem dX6_shameBy_18 : decode cX6_shameBy 18 = .ok (.iaload, 1) := by decide +kernel
theorem dX6_shameBy_19 : decode cX6_shameBy 19 = .ok (.iload 4, 2) := by decide +kernel
theorem dX6_shameBy_21 : decode cX6_shameBy 21 = .ok (.iadd, 1) := by decide +kernel
theorem dX6_shameBy_22 : decode cX6_shameBy 22 = .ok (.aload_n 0, 1) := by decide +kernel
theorem dX6_shameBy_23 : decode cX6_shameBy 23 = .ok (.getfield 9, 3) := by decide +kernel
theorem dX6_shameBy_26 : decode cX6_shameBy 26 = .ok (.iload_n 3, 1) := by decide +kernel
theorem dX6_shameBy_27 : decode cX6_shameBy 27 = .ok (.iaload, 1) := by decide +kernel
theorem dX6_shameBy_28 : decode cX6_shameBy 28 = .ok (.isub, 1) := by decide +kernel
theorem dX6_shameBy_29 : decode cX6_shameBy 29 = .ok (.istore 5, 2) := by decide +kernel
theorem dX6_shameBy_31 : decode cX6_shameBy 31 = .ok (.aload_n 0, 1) := by decide +kernel
theorem dX6_shameBy_32 : decode cX6_shameBy 32 = .ok (.getfield 47, 3) := by decide +kernel
theorem dX6_shameBy_35 : decode cX6_shameBy 35 = .ok (.getfield 135, 3) := by decide +kernel
theorem dX6_shameBy_38 : decode cX6_shameBy 38 = .ok (.invokevirtual 139, 3) := by decide +kernel
theorem dX6_shameBy_41 : decode cX6_shameBy 41 = .ok (.ifCond .eq 116, 3) := by decide +kernel
theorem dX6_shameBy_44 : decode cX6_shameBy 44 = .ok (.aload_n 0, 1) := by decide +kernel
theorem dX6_shameBy_45 : decode cX6_shameBy 45 = .ok (.getfield 41, 3) := by decide +kernel
theorem dX6_shameBy_48 : decode cX6_shameBy 48 = .ok (.iconst 0, 1) := by decide +kernel
theorem dX6_shameBy_49 : decode cX6_shameBy 49 = .ok (.aload_n 0, 1) := by decide +kernel
theorem dX6_shameBy_50 : decode cX6_shameBy 50 = .ok (.getfield 21, 3) := by decide +kernel
theorem dX6_shameBy_53 : decode cX6_shameBy 53 = .ok (.iload_n 1, 1) := by decide +kernel
theorem dX6_shameBy_54 : decode cX6_shameBy 54 = .ok (.iaload, 1) := by decide +kernel
theorem dX6_shameBy_55 : decode cX6_shameBy 55 = .ok (.iastore, 1) := by decide +kernel
theorem dX6_shameBy_56 : decode cX6_shameBy 56 = .ok (.aload_n 0, 1) := by decide +kernel
theorem dX6_shameBy_57 : decode cX6_shameBy 57 = .ok (.getfield 41, 3) := by decide +kernel
theorem dX6_shameBy_60 : decode cX6_shameBy 60 = .ok (.iconst 1, 1) := by decide +kernel
theorem dX6_shameBy_61 : decode cX6_shameBy 61 = .ok (.aload_n 0, 1) := by decide +kernel
theorem dX6_shameBy_62 : decode cX6_shameBy 62 = .ok (.getfield 47, 3) := by decide +kernel
theorem dX6_shameBy_65 : decode cX6_shameBy 65 = .ok (.getfield 143, 3) := by decide +kernel
theorem dX6_shameBy_68 : decode cX6_shameBy 68 = .ok (.iload_n 1, 1) := by decide +kernel
theorem dX6_shameBy_69 : decode cX6_shameBy 69 = .ok (.iaload, 1) := by decide +kernel
theorem dX6_shameBy_70 : decode cX6_shameBy 70 = .ok (.iastore, 1) := by decide +kernel
theorem dX6_shameBy_71 : decode cX6_shameBy 71 = .ok (.aload_n 0, 1) := by decide +kernel
theorem dX6_shameBy_72 : decode cX6_shameBy 72 = .ok (.getfield 41, 3) := by decide +kernel
theorem dX6_shameBy_75 : decode cX6_shameBy 75 = .ok (.iconst 2, 1) := by decide +kernel
theorem dX6_shameBy_76 : decode cX6_shameBy 76 = .ok (.aload_n 0, 1) := by decide +kernel
theorem dX6_shameBy_77 : decode cX6_shameBy 77 = .ok (.getfield 30, 3) := by decide +kernel
theorem dX6_shameBy_80 : decode cX6_shameBy 80 = .ok (.iload_n 1, 1) := by decide +kernel
theorem dX6_shameBy_81 : decode cX6_shameBy 81 = .ok (.iaload, 1) := by decide +kernel
theorem dX6_shameBy_82 : decode cX6_shameBy 82 = .ok (.iastore, 1) := by decide +kernel
theorem dX6_shameBy_83 : decode cX6_shameBy 83 = .ok (.aload_n 0, 1) := by decide +kernel
theorem dX6_shameBy_84 : decode cX6_shameBy 84 = .ok (.getfield 41, 3) := by decide +kernel
theorem dX6_shameBy_87 : decode cX6_shameBy 87 = .ok (.iconst 3, 1) := by decide +kernel
theorem dX6_shameBy_88 : decode cX6_shameBy 88 = .ok (.iload 4, 2) := by decide +kernel
theorem dX6_shameBy_90 : decode cX6_shameBy 90 = .ok (.iastore, 1) := by decide +kernel
theorem dX6_shameBy_91 : decode cX6_shameBy 91 = .ok (.aload_n 0, 1) := by decide +kernel
theorem dX6_shameBy_92 : decode cX6_shameBy 92 = .ok (.getfield 41, 3) := by decide +kernel
theorem dX6_shameBy_95 : decode cX6_shameBy 95 = .ok (.iconst 4, 1) := by decide +kernel
theorem dX6_shameBy_96 : decode cX6_shameBy 96 = .ok (.aload_n 0, 1) := by decide +kernel
theorem dX6_shameBy_97 : decode cX6_shameBy 97 = .ok (.getfield 9, 3) := by decide +kernel
theorem dX6_shameBy_100 : decode cX6_shameBy 100 = .ok (.iload_n 3, 1) := by decide +kernel
theorem dX6_shameBy_101 : decode cX6_shameBy 101 = .ok (.iaload, 1) := by decide +kernel
theorem dX6_shameBy_102 : decode cX6_shameBy 102 = .ok (.iastore, 1) := by decide +kernel
theorem dX6_shameBy_103 : decode cX6_shameBy 103 = .ok (.aload_n 0, 1) := by decide +kernel
theorem dX6_shameBy_104 : decode cX6_shameBy 104 = .ok (.getfield 41, 3) := by decide +kernel
theorem dX6_shameBy_107 : decode cX6_shameBy 107 = .ok (.iconst 5, 1) := by decide +kernel
theorem dX6_shameBy_108 : decode cX6_shameBy 108 = .ok (.iload_n 2, 1) := by decide +kernel
theorem dX6_shameBy_109 : decode cX6_shameBy 109 = .ok (.aload_n 0, 1) := by decide +kernel
theorem dX6_shameBy_110 : decode cX6_shameBy 110 = .ok (.getfield 24, 3) := by decide +kernel
theorem dX6_shameBy_113 : decode cX6_shameBy 113 = .ok (.iload_n 1, 1) := by decide +kernel
theorem dX6_shameBy_114 : decode cX6_shameBy 114 = .ok (.iaload, 1) := by decide +kernel
theorem dX6_shameBy_115 : decode cX6_shameBy 115 = .ok (.ishr, 1) := by decide +kernel
theorem dX6_shameBy_116 : decode cX6_shameBy 116 = .ok (.iconst 1, 1) := by decide +kernel
theorem dX6_shameBy_117 : decode cX6_shameBy 117 = .ok (.iand, 1) := by decide +kernel
theorem dX6_shameBy_118 : decode cX6_shameBy 118 = .ok (.iastore, 1) := by decide +kernel
theorem dX6_shameBy_119 : decode cX6_shameBy 119 = .ok (.aload_n 0, 1) := by decide +kernel
theorem dX6_shameBy_120 : decode cX6_shameBy 120 = .ok (.getfield 41, 3) := by decide +kernel
theorem dX6_shameBy_123 : decode cX6_shameBy 123 = .ok (.bipush 6, 2) := by decide +kernel
theorem dX6_shameBy_125 : decode cX6_shameBy 125 = .ok (.aload_n 0, 1) := by decide +kernel
theorem dX6_shameBy_126 : decode cX6_shameBy 126 = .ok (.getfield 51, 3) := by decide +kernel
theorem dX6_shameBy_129 : decode cX6_shameBy 129 = .ok (.iastore, 1) := by decide +kernel
theorem dX6_shameBy_130 : decode cX6_shameBy 130 = .ok (.aload_n 0, 1) := by decide +kernel
theorem dX6_shameBy_131 : decode cX6_shameBy 131 = .ok (.getfield 47, 3) := by decide +kernel
theorem dX6_shameBy_134 : decode cX6_shameBy 134 = .ok (.getfield 135, 3) := by decide +kernel
theorem dX6_shameBy_137 : decode cX6_shameBy 137 = .ok (.aload_n 0, 1) := by decide +kernel
theorem dX6_shameBy_138 : decode cX6_shameBy 138 = .ok (.getfield 47, 3) := by decide +kernel
theorem dX6_shameBy_141 : decode cX6_shameBy 141 = .ok (.getfield 146, 3) := by decide +kernel
theorem dX6_shameBy_144 : decode cX6_shameBy 144 = .ok (.aload_n 0, 1) := by decide +kernel
theorem dX6_shameBy_145 : decode cX6_shameBy 145 = .ok (.getfield 41, 3) := by decide +kernel
theorem dX6_shameBy_148 : decode cX6_shameBy 148 = .ok (.aload_n 0, 1) := by decide +kernel
theorem dX6_shameBy_149 : decode cX6_shameBy 149 = .ok (.getfield 44, 3) := by decide +kernel
theorem dX6_shameBy_152 : decode cX6_shameBy 152 = .ok (.invokevirtual 149, 3) := by decide +kernel
theorem dX6_shameBy_155 : decode cX6_shameBy 155 = .ok (.istore 5, 2) := by decide +kernel
theorem dX6_shameBy_157 : decode cX6_shameBy 157 = .ok (.iconst 0, 1) := by decide +kernel
theorem dX6_shameBy_158 : decode cX6_shameBy 158 = .ok (.bipush 20, 2) := by decide +kernel
theorem dX6_shameBy_160 : decode cX6_shameBy 160 = .ok (.iload 5, 2) := by decide +kernel
theorem dX6_shameBy_162 : decode cX6_shameBy 162 = .ok (.invokestatic 75, 3) := by decide +kernel
theorem dX6_shameBy_165 : decode cX6_shameBy 165 = .ok (.invokestatic 114, 3) := by decide +kernel
theorem dX6_shameBy_168 : decode cX6_shameBy 168 = .ok (.ireturn, 1) := by decide +kernel
theorem dX6_givesBack_0 : decode cX6_givesBack 0 = .ok (.aload_n 0, 1) := by decide +kernel
theorem dX6_givesBack_1 : decode cX6_givesBack 1 = .ok (.getfield 47, 3) := by decide +kernel
theorem dX6_givesBack_4 : decode cX6_givesBack 4 = .ok (.getfield 153, 3) := by decide +kernel
theorem dX6_givesBack_7 : decode cX6_givesBack 7 = .ok (.invokevirtual 139, 3) := by decide +kernel
theorem dX6_givesBack_10 : decode cX6_givesBack 10 = .ok (.ifCond .ne 20, 3) := by decide +kernel
theorem dX6_givesBack_13 : decode cX6_givesBack 13 = .ok (.aload_n 0, 1) := by decide +kernel
theorem dX6_givesBack_14 : decode cX6_givesBack 14 = .ok (.getfield 15, 3) := by decide +kernel
theorem dX6_givesBack_17 : decode cX6_givesBack 17 = .ok (.iload_n 1, 1) := by decide +kernel
theorem dX6_givesBack_18 : decode cX6_givesBack 18 = .ok (.iaload, 1) := by decide +kernel
theorem dX6_givesBack_19 : decode cX6_givesBack 19 = .ok (.bipush 40, 2) := by decide +kernel
theorem dX6_givesBack_21 : decode cX6_givesBack 21 = .ok (.if_icmp .lt 7, 3) := by decide +kernel
theorem dX6_givesBack_24 : decode cX6_givesBack 24 = .ok (.iconst 1, 1) := by decide +kernel
theorem dX6_givesBack_25 : decode cX6_givesBack 25 = .ok (.goto 4, 3) := by decide +kernel
theorem dX6_givesBack_28 : decode cX6_givesBack 28 = .ok (.iconst 0, 1) := by decide +kernel
theorem dX6_givesBack_29 : decode cX6_givesBack 29 = .ok (.ireturn, 1) := by decide +kernel
theorem dX6_givesBack_30 : decode cX6_givesBack 30 = .ok (.aload_n 0, 1) := by decide +kernel
theorem dX6_givesBack_31 : decode cX6_givesBack 31 = .ok (.getfield 41, 3) := by decide +kernel
theorem dX6_givesBack_34 : decode cX6_givesBack 34 = .ok (.bipush 7, 2) := by decide +kernel
theorem dX6_givesBack_36 : decode cX6_givesBack 36 = .ok (.aload_n 0, 1) := by decide +kernel
theorem dX6_givesBack_37 : decode cX6_givesBack 37 = .ok (.getfield 15, 3) := by decide +kernel
theorem dX6_givesBack_40 : decode cX6_givesBack 40 = .ok (.iload_n 1, 1) := by decide +kernel
theorem dX6_givesBack_41 : decode cX6_givesBack 41 = .ok (.iaload, 1) := by decide +kernel
theorem dX6_givesBack_42 : decode cX6_givesBack 42 = .ok (.iastore, 1) := by decide +kernel
theorem dX6_givesBack_43 : decode cX6_givesBack 43 = .ok (.aload_n 0, 1) := by decide +kernel
theorem dX6_givesBack_44 : decode cX6_givesBack 44 = .ok (.getfield 41, 3) := by decide +kernel
theorem dX6_givesBack_47 : decode cX6_givesBack 47 = .ok (.iconst 4, 1) := by decide +kernel
theorem dX6_givesBack_48 : decode cX6_givesBack 48 = .ok (.aload_n 0, 1) := by decide +kernel
theorem dX6_givesBack_49 : decode cX6_givesBack 49 = .ok (.getfield 9, 3) := by decide +kernel
theorem dX6_givesBack_52 : decode cX6_givesBack 52 = .ok (.iload_n 1, 1) := by decide +kernel
theorem dX6_givesBack_53 : decode cX6_givesBack 53 = .ok (.iaload, 1) := by decide +kernel
theorem dX6_givesBack_54 : decode cX6_givesBack 54 = .ok (.iastore, 1) := by decide +kernel
theorem dX6_givesBack_55 : decode cX6_givesBack 55 = .ok (.aload_n 0, 1) := by decide +kernel
theorem dX6_givesBack_56 : decode cX6_givesBack 56 = .ok (.getfield 41, 3) := by decide +kernel
theorem dX6_givesBack_59 : decode cX6_givesBack 59 = .ok (.bipush 8, 2) := by decide +kernel
theorem dX6_givesBack_61 : decode cX6_givesBack 61 = .ok (.aload_n 0, 1) := by decide +kernel
theorem dX6_givesBack_62 : decode cX6_givesBack 62 = .ok (.getfield 36, 3) := by decide +kernel
theorem dX6_givesBack_65 : decode cX6_givesBack 65 = .ok (.iload_n 1, 1) := by decide +kernel
theorem dX6_givesBack_66 : decode cX6_givesBack 66 = .ok (.iaload, 1) := by decide +kernel
theorem dX6_givesBack_67 : decode cX6_givesBack 67 = .ok (.iastore, 1) := by decide +kernel
theorem dX6_givesBack_68 : decode cX6_givesBack 68 = .ok (.aload_n 0, 1) := by decide +kernel
theorem dX6_givesBack_69 : decode cX6_givesBack 69 = .ok (.getfield 41, 3) := by decide +kernel
theorem dX6_givesBack_72 : decode cX6_givesBack 72 = .ok (.bipush 6, 2) := by decide +kernel
theorem dX6_givesBack_74 : decode cX6_givesBack 74 = .ok (.aload_n 0, 1) := by decide +kernel
theorem dX6_givesBack_75 : decode cX6_givesBack 75 = .ok (.getfield 51, 3) := by decide +kernel
theorem dX6_givesBack_78 : decode cX6_givesBack 78 = .ok (.iastore, 1) := by decide +kernel
theorem dX6_givesBack_79 : decode cX6_givesBack 79 = .ok (.aload_n 0, 1) := by decide +kernel
theorem dX6_givesBack_80 : decode cX6_givesBack 80 = .ok (.getfield 47, 3) := by decide +kernel
theorem dX6_givesBack_83 : decode cX6_givesBack 83 = .ok (.getfield 153, 3) := by decide +kernel
theorem dX6_givesBack_86 : decode cX6_givesBack 86 = .ok (.aload_n 0, 1) := by decide +kernel
theorem dX6_givesBack_87 : decode cX6_givesBack 87 = .ok (.getfield 47, 3) := by decide +kernel
theorem dX6_givesBack_90 : decode cX6_givesBack 90 = .ok (.getfield 146, 3) := by decide +kernel
theorem dX6_givesBack_93 : decode cX6_givesBack 93 = .ok (.aload_n 0, 1) := by decide +kernel
theorem dX6_givesBack_94 : decode cX6_givesBack 94 = .ok (.getfield 41, 3) := by decide +kernel
theorem dX6_givesBack_97 : decode cX6_givesBack 97 = .ok (.aload_n 0, 1) := by decide +kernel
theorem dX6_givesBack_98 : decode cX6_givesBack 98 = .ok (.getfield 44, 3) := by decide +kernel
theorem dX6_givesBack_101 : decode cX6_givesBack 101 = .ok (.invokevirtual 149, 3) := by decide +kernel
theorem dX6_givesBack_104 : decode cX6_givesBack 104 = .ok (.ifCond .le 7, 3) := by decide +kernel
theorem dX6_givesBack_107 : decode cX6_givesBack 107 = .ok (.iconst 1, 1) := by decide +kernel
theorem dX6_givesBack_108 : decode cX6_givesBack 108 = .ok (.goto 4, 3) := by decide +kernel
theorem dX6_givesBack_111 : decode cX6_givesBack 111 = .ok (.iconst 0, 1) := by decide +kernel
theorem dX6_givesBack_112 : decode cX6_givesBack 112 = .ok (.ireturn, 1) := by decide +kernel
theorem dX6_maySteal_0 : decode cX6_maySteal 0 = .ok (.aload_n 0, 1) := by decide +kernel
theorem dX6_maySteal_1 : decode cX6_maySteal 1 = .ok (.getfield 24, 3) := by decide +kernel
theorem dX6_maySteal_4 : decode cX6_maySteal 4 = .ok (.iload_n 2, 1) := by decide +kernel
theorem dX6_maySteal_5 : decode cX6_maySteal 5 = .ok (.iaload, 1) := by decide +kernel
theorem dX6_maySteal_6 : decode cX6_maySteal 6 = .ok (.iload_n 1, 1) := by decide +kernel
theorem dX6_maySteal_7 : decode cX6_maySteal 7 = .ok (.if_icmp .eq 17, 3) := by decide +kernel
theorem dX6_maySteal_10 : decode cX6_maySteal 10 = .ok (.aload_n 0, 1) := by decide +kernel
theorem dX6_maySteal_11 : decode cX6_maySteal 11 = .ok (.getfield 27, 3) := by decide +kernel
theorem dX6_maySteal_14 : decode cX6_maySteal 14 = .ok (.iload_n 2, 1) := by decide +kernel
theorem dX6_maySteal_15 : decode cX6_maySteal 15 = .ok (.iaload, 1) := by decide +kernel
theorem dX6_maySteal_16 : decode cX6_maySteal 16 = .ok (.iload_n 1, 1) := by decide +kernel
theorem dX6_maySteal_17 : decode cX6_maySteal 17 = .ok (.if_icmp .eq 7, 3) := by decide +kernel
theorem dX6_maySteal_20 : decode cX6_maySteal 20 = .ok (.iconst 1, 1) := by decide +kernel
theorem dX6_maySteal_21 : decode cX6_maySteal 21 = .ok (.goto 4, 3) := by decide +kernel
theorem dX6_maySteal_24 : decode cX6_maySteal 24 = .ok (.iconst 0, 1) := by decide +kernel
theorem dX6_maySteal_25 : decode cX6_maySteal 25 = .ok (.ireturn, 1) := by decide +kernel
theorem dX6_putOn_0 : decode cX6_putOn 0 = .ok (.aload_n 0, 1) := by decide +kernel
theorem dX6_putOn_1 : decode cX6_putOn 1 = .ok (.getfield 27, 3) := by decide +kernel
theorem dX6_putOn_4 : decode cX6_putOn 4 = .ok (.iload_n 2, 1) := by decide +kernel
theorem dX6_putOn_5 : decode cX6_putOn 5 = .ok (.iload_n 1, 1) := by decide +kernel
theorem dX6_putOn_6 : decode cX6_putOn 6 = .ok (.iastore, 1) := by decide +kernel
theorem dX6_putOn_7 : decode cX6_putOn 7 = .ok (.aload_n 0, 1) := by decide +kernel
theorem dX6_putOn_8 : decode cX6_putOn 8 = .ok (.getfield 30, 3) := by decide +kernel
theorem dX6_putOn_11 : decode cX6_putOn 11 = .ok (.iload_n 2, 1) := by decide +kernel
theorem dX6_putOn_12 : decode cX6_putOn 12 = .ok (.iconst 0, 1) := by decide +kernel
theorem dX6_putOn_13 : decode cX6_putOn 13 = .ok (.iastore, 1) := by decide +kernel
theorem dX6_putOn_14 : decode cX6_putOn 14 = .ok (.return_, 1) := by decide +kernel
theorem dX6_putOffAll_0 : decode cX6_putOffAll 0 = .ok (.iconst 0, 1) := by decide +kernel
theorem dX6_putOffAll_1 : decode cX6_putOffAll 1 = .ok (.istore_n 2, 1) := by decide +kernel
theorem dX6_putOffAll_2 : decode cX6_putOffAll 2 = .ok (.iload_n 2, 1) := by decide +kernel
theorem dX6_putOffAll_3 : decode cX6_putOffAll 3 = .ok (.aload_n 0, 1) := by decide +kernel
theorem dX6_putOffAll_4 : decode cX6_putOffAll 4 = .ok (.getfield 47, 3) := by decide +kernel
theorem dX6_putOffAll_7 : decode cX6_putOffAll 7 = .ok (.getfield 91, 3) := by decide +kernel
theorem dX6_putOffAll_10 : decode cX6_putOffAll 10 = .ok (.if_icmp .ge 25, 3) := by decide +kernel
theorem dX6_putOffAll_13 : decode cX6_putOffAll 13 = .ok (.aload_n 0, 1) := by decide +kernel
theorem dX6_putOffAll_14 : decode cX6_putOffAll 14 = .ok (.getfield 27, 3) := by decide +kernel
theorem dX6_putOffAll_17 : decode cX6_putOffAll 17 = .ok (.iload_n 2, 1) := by decide +kernel
theorem dX6_putOffAll_18 : decode cX6_putOffAll 18 = .ok (.iaload, 1) := by decide +kernel
theorem dX6_putOffAll_19 : decode cX6_putOffAll 19 = .ok (.iload_n 1, 1) := by decide +kernel
theorem dX6_putOffAll_20 : decode cX6_putOffAll 20 = .ok (.if_icmp .ne 9, 3) := by decide +kernel
theorem dX6_putOffAll_23 : decode cX6_putOffAll 23 = .ok (.aload_n 0, 1) := by decide +kernel
theorem dX6_putOffAll_24 : decode cX6_putOffAll 24 = .ok (.iconst (-1), 1) := by decide +kernel
theorem dX6_putOffAll_25 : decode cX6_putOffAll 25 = .ok (.iload_n 2, 1) := by decide +kernel
theorem dX6_putOffAll_26 : decode cX6_putOffAll 26 = .ok (.invokevirtual 123, 3) := by decide +kernel
theorem dX6_putOffAll_29 : decode cX6_putOffAll 29 = .ok (.iinc 2 1, 3) := by decide +kernel
theorem dX6_putOffAll_32 : decode cX6_putOffAll 32 = .ok (.goto (-30), 3) := by decide +kernel
theorem dX6_putOffAll_35 : decode cX6_putOffAll 35 = .ok (.return_, 1) := by decide +kernel
theorem dX6_standAlways_0 : decode cX6_standAlways 0 = .ok (.iconst 0, 1) := by decide +kernel
theorem dX6_standAlways_1 : decode cX6_standAlways 1 = .ok (.istore_n 3, 1) := by decide +kernel
theorem dX6_standAlways_2 : decode cX6_standAlways 2 = .ok (.iload_n 3, 1) := by decide +kernel
theorem dX6_standAlways_3 : decode cX6_standAlways 3 = .ok (.bipush 6, 2) := by decide +kernel
theorem dX6_standAlways_5 : decode cX6_standAlways 5 = .ok (.if_icmp .ge 21, 3) := by decide +kernel
theorem dX6_standAlways_8 : decode cX6_standAlways 8 = .ok (.aload_n 0, 1) := by decide +kernel
theorem dX6_standAlways_9 : decode cX6_standAlways 9 = .ok (.getfield 18, 3) := by decide +kernel
theorem dX6_standAlways_12 : decode cX6_standAlways 12 = .ok (.iload_n 1, 1) := by decide +kernel
theorem dX6_standAlways_13 : decode cX6_standAlways 13 = .ok (.bipush 6, 2) := by decide +kernel
theorem dX6_standAlways_15 : decode cX6_standAlways 15 = .ok (.imul, 1) := by decide +kernel
theorem dX6_standAlways_16 : decode cX6_standAlways 16 = .ok (.iload_n 3, 1) := by decide +kernel
theorem dX6_standAlways_17 : decode cX6_standAlways 17 = .ok (.iadd, 1) := by decide +kernel
theorem dX6_standAlways_18 : decode cX6_standAlways 18 = .ok (.iload_n 2, 1) := by decide +kernel
theorem dX6_standAlways_19 : decode cX6_standAlways 19 = .ok (.iastore, 1) := by decide +kernel
theorem dX6_standAlways_20 : decode cX6_standAlways 20 = .ok (.iinc 3 1, 3) := by decide +kernel
theorem dX6_standAlways_23 : decode cX6_standAlways 23 = .ok (.goto (-21), 3) := by decide +kernel
theorem dX6_standAlways_26 : decode cX6_standAlways 26 = .ok (.return_, 1) := by decide +kernel
theorem dX6_placeOn_0 : decode cX6_placeOn 0 = .ok (.aload_n 0, 1) := by decide +kernel
theorem dX6_placeOn_1 : decode cX6_placeOn 1 = .ok (.getfield 47, 3) := by decide +kernel
theorem dX6_placeOn_4 : decode cX6_placeOn 4 = .ok (.getfield 156, 3) := by decide +kernel
theorem dX6_placeOn_7 : decode cX6_placeOn 7 = .ok (.iload_n 1, 1) := by decide +kernel
theorem dX6_placeOn_8 : decode cX6_placeOn 8 = .ok (.iaload, 1) := by decide +kernel
theorem dX6_placeOn_9 : decode cX6_placeOn 9 = .ok (.istore_n 3, 1) := by decide +kernel
theorem dX6_placeOn_10 : decode cX6_placeOn 10 = .ok (.iload_n 3, 1) := by decide +kernel
theorem dX6_placeOn_11 : decode cX6_placeOn 11 = .ok (.iconst 1, 1) := by decide +kernel
theorem dX6_placeOn_12 : decode cX6_placeOn 12 = .ok (.if_icmp .lt 7, 3) := by decide +kernel
theorem dX6_placeOn_15 : decode cX6_placeOn 15 = .ok (.iload_n 2, 1) := by decide +kernel
theorem dX6_placeOn_16 : decode cX6_placeOn 16 = .ok (.ifCond .ge 7, 3) := by decide +kernel
theorem dX6_placeOn_19 : decode cX6_placeOn 19 = .ok (.iconst 0, 1) := by decide +kernel
theorem dX6_placeOn_20 : decode cX6_placeOn 20 = .ok (.goto 16, 3) := by decide +kernel
theorem dX6_placeOn_23 : decode cX6_placeOn 23 = .ok (.aload_n 0, 1) := by decide +kernel
theorem dX6_placeOn_24 : decode cX6_placeOn 24 = .ok (.getfield 18, 3) := by decide +kernel
theorem dX6_placeOn_27 : decode cX6_placeOn 27 = .ok (.iload_n 1, 1) := by decide +kernel
theorem dX6_placeOn_28 : decode cX6_placeOn 28 = .ok (.bipush 6, 2) := by decide +kernel
theorem dX6_placeOn_30 : decode cX6_placeOn 30 = .ok (.imul, 1) := by decide +kernel
theorem dX6_placeOn_31 : decode cX6_placeOn 31 = .ok (.iload_n 2, 1) := by decide +kernel
theorem dX6_placeOn_32 : decode cX6_placeOn 32 = .ok (.iload_n 3, 1) := by decide +kernel
theorem dX6_placeOn_33 : decode cX6_placeOn 33 = .ok (.irem, 1) := by decide +kernel
theorem dX6_placeOn_34 : decode cX6_placeOn 34 = .ok (.iadd, 1) := by decide +kernel
theorem dX6_placeOn_35 : decode cX6_placeOn 35 = .ok (.iaload, 1) := by decide +kernel
theorem dX6_placeOn_36 : decode cX6_placeOn 36 = .ok (.ireturn, 1) := by decide +kernel
theorem dX6_lookAround_0 : decode cX6_lookAround 0 = .ok (.aload_n 0, 1) := by decide +kernel
theorem dX6_lookAround_1 : decode cX6_lookAround 1 = .ok (.getfield 33, 3) := by decide +kernel
theorem dX6_lookAround_4 : decode cX6_lookAround 4 = .ok (.iconst 0, 1) := by decide +kernel
theorem dX6_lookAround_5 : decode cX6_lookAround 5 = .ok (.invokestatic 65, 3) := by decide +kernel
theorem dX6_lookAround_8 : decode cX6_lookAround 8 = .ok (.iconst 0, 1) := by decide +kernel
theorem dX6_lookAround_9 : decode cX6_lookAround 9 = .ok (.istore_n 2, 1) := by decide +kernel
theorem dX6_lookAround_10 : decode cX6_lookAround 10 = .ok (.iload_n 2, 1) := by decide +kernel
theorem dX6_lookAround_11 : decode cX6_lookAround 11 = .ok (.aload_n 0, 1) := by decide +kernel
theorem dX6_lookAround_12 : decode cX6_lookAround 12 = .ok (.getfield 47, 3) := by decide +kernel
theorem dX6_lookAround_15 : decode cX6_lookAround 15 = .ok (.getfield 104, 3) := by decide +kernel
theorem dX6_lookAround_18 : decode cX6_lookAround 18 = .ok (.if_icmp .ge 38, 3) := by decide +kernel
theorem dX6_lookAround_21 : decode cX6_lookAround 21 = .ok (.aload_n 0, 1) := by decide +kernel
theorem dX6_lookAround_22 : decode cX6_lookAround 22 = .ok (.getfield 47, 3) := by decide +kernel
theorem dX6_lookAround_25 : decode cX6_lookAround 25 = .ok (.getfield 159, 3) := by decide +kernel
theorem dX6_lookAround_28 : decode cX6_lookAround 28 = .ok (.iload_n 2, 1) := by decide +kernel
theorem dX6_lookAround_29 : decode cX6_lookAround 29 = .ok (.iaload, 1) := by decide +kernel
theorem dX6_lookAround_30 : decode cX6_lookAround 30 = .ok (.ifCond .ne 20, 3) := by decide +kernel
theorem dX6_lookAround_33 : decode cX6_lookAround 33 = .ok (.aload_n 0, 1) := by decide +kernel
theorem dX6_lookAround_34 : decode cX6_lookAround 34 = .ok (.getfield 33, 3) := by decide +kernel
theorem dX6_lookAround_37 : decode cX6_lookAround 37 = .ok (.aload_n 0, 1) := by decide +kernel
theorem dX6_lookAround_38 : decode cX6_lookAround 38 = .ok (.iload_n 2, 1) := by decide +kernel
theorem dX6_lookAround_39 : decode cX6_lookAround 39 = .ok (.iload_n 1, 1) := by decide +kernel
theorem dX6_lookAround_40 : decode cX6_lookAround 40 = .ok (.invokevirtual 162, 3) := by decide +kernel
theorem dX6_lookAround_43 : decode cX6_lookAround 43 = .ok (.dup2, 1) := by decide +kernel
theorem dX6_lookAround_44 : decode cX6_lookAround 44 = .ok (.iaload, 1) := by decide +kernel
theorem dX6_lookAround_45 : decode cX6_lookAround 45 = .ok (.iconst 1, 1) := by decide +kernel
theorem dX6_lookAround_46 : decode cX6_lookAround 46 = .ok (.iload_n 2, 1) := by decide +kernel
theorem dX6_lookAround_47 : decode cX6_lookAround 47 = .ok (.ishl, 1) := by decide +kernel
theorem dX6_lookAround_48 : decode cX6_lookAround 48 = .ok (.ior, 1) := by decide +kernel
theorem dX6_lookAround_49 : decode cX6_lookAround 49 = .ok (.iastore, 1) := by decide +kernel
theorem dX6_lookAround_50 : decode cX6_lookAround 50 = .ok (.iinc 2 1, 3) := by decide +kernel
theorem dX6_lookAround_53 : decode cX6_lookAround 53 = .ok (.goto (-43), 3) := by decide +kernel
theorem dX6_lookAround_56 : decode cX6_lookAround 56 = .ok (.return_, 1) := by decide +kernel
theorem dX6_lookersAt_0 : decode cX6_lookersAt 0 = .ok (.aload_n 0, 1) := by decide +kernel
theorem dX6_lookersAt_1 : decode cX6_lookersAt 1 = .ok (.getfield 33, 3) := by decide +kernel
theorem dX6_lookersAt_4 : decode cX6_lookersAt 4 = .ok (.aload_n 0, 1) := by decide +kernel
theorem dX6_lookersAt_5 : decode cX6_lookersAt 5 = .ok (.iload_n 1, 1) := by decide +kernel
theorem dX6_lookersAt_6 : decode cX6_lookersAt 6 = .ok (.iload_n 2, 1) := by decide +kernel
theorem dX6_lookersAt_7 : decode cX6_lookersAt 7 = .ok (.invokevirtual 162, 3) := by decide +kernel
theorem dX6_lookersAt_10 : decode cX6_lookersAt 10 = .ok (.iaload, 1) := by decide +kernel
theorem dX6_lookersAt_11 : decode cX6_lookersAt 11 = .ok (.iconst 1, 1) := by decide +kernel
theorem dX6_lookersAt_12 : decode cX6_lookersAt 12 = .ok (.iload_n 1, 1) := by decide +kernel
theorem dX6_lookersAt_13 : decode cX6_lookersAt 13 = .ok (.ishl, 1) := by decide +kernel
theorem dX6_lookersAt_14 : decode cX6_lookersAt 14 = .ok (.iconst (-1), 1) := by decide +kernel
theorem dX6_lookersAt_15 : decode cX6_lookersAt 15 = .ok (.ixor, 1) := by decide +kernel
theorem dX6_lookersAt_16 : decode cX6_lookersAt 16 = .ok (.iand, 1) := by decide +kernel
theorem dX6_lookersAt_17 : decode cX6_lookersAt 17 = .ok (.ireturn, 1) := by decide +kernel
theorem dX6_lookersOn_0 : decode cX6_lookersOn 0 = .ok (.aload_n 0, 1) := by decide +kernel
theorem dX6_lookersOn_1 : decode cX6_lookersOn 1 = .ok (.iload_n 2, 1) := by decide +kernel
theorem dX6_lookersOn_2 : decode cX6_lookersOn 2 = .ok (.invokevirtual 87, 3) := by decide +kernel
theorem dX6_lookersOn_5 : decode cX6_lookersOn 5 = .ok (.aload_n 0, 1) := by decide +kernel
theorem dX6_lookersOn_6 : decode cX6_lookersOn 6 = .ok (.iload_n 1, 1) := by decide +kernel
theorem dX6_lookersOn_7 : decode cX6_lookersOn 7 = .ok (.iload_n 2, 1) := by decide +kernel
theorem dX6_lookersOn_8 : decode cX6_lookersOn 8 = .ok (.invokevirtual 94, 3) := by decide +kernel
theorem dX6_lookersOn_11 : decode cX6_lookersOn 11 = .ok (.ireturn, 1) := by decide +kernel
theorem dX6_firstTogether_0 : decode cX6_firstTogether 0 = .ok (.iconst 1, 1) := by decide +kernel
theorem dX6_firstTogether_1 : decode cX6_firstTogether 1 = .ok (.istore_n 3, 1) := by decide +kernel
theorem dX6_firstTogether_2 : decode cX6_firstTogether 2 = .ok (.iload_n 3, 1) := by decide +kernel
theorem dX6_firstTogether_3 : decode cX6_firstTogether 3 = .ok (.bipush 100, 2) := by decide +kernel
theorem dX6_firstTogether_5 : decode cX6_firstTogether 5 = .ok (.if_icmp .gt 40, 3) := by decide +kernel
theorem dX6_firstTogether_8 : decode cX6_firstTogether 8 = .ok (.aload_n 0, 1) := by decide +kernel
theorem dX6_firstTogether_9 : decode cX6_firstTogether 9 = .ok (.iload_n 1, 1) := by decide +kernel
theorem dX6_firstTogether_10 : decode cX6_firstTogether 10 = .ok (.aload_n 0, 1) := by decide +kernel
theorem dX6_firstTogether_11 : decode cX6_firstTogether 11 = .ok (.getfield 51, 3) := by decide +kernel
theorem dX6_firstTogether_14 : decode cX6_firstTogether 14 = .ok (.iload_n 3, 1) := by decide +kernel
theorem dX6_firstTogether_15 : decode cX6_firstTogether 15 = .ok (.iadd, 1) := by decide +kernel
theorem dX6_firstTogether_16 : decode cX6_firstTogether 16 = .ok (.iconst 1, 1) := by decide +kernel
theorem dX6_firstTogether_17 : decode cX6_firstTogether 17 = .ok (.isub, 1) := by decide +kernel
theorem dX6_firstTogether_18 : decode cX6_firstTogether 18 = .ok (.invokevirtual 162, 3) := by decide +kernel
theorem dX6_firstTogether_21 : decode cX6_firstTogether 21 = .ok (.aload_n 0, 1) := by decide +kernel
theorem dX6_firstTogether_22 : decode cX6_firstTogether 22 = .ok (.iload_n 2, 1) := by decide +kernel
theorem dX6_firstTogether_23 : decode cX6_firstTogether 23 = .ok (.aload_n 0, 1) := by decide +kernel
theorem dX6_firstTogether_24 : decode cX6_firstTogether 24 = .ok (.getfield 51, 3) := by decide +kernel
theorem dX6_firstTogether_27 : decode cX6_firstTogether 27 = .ok (.iload_n 3, 1) := by decide +kernel
theorem dX6_firstTogether_28 : decode cX6_firstTogether 28 = .ok (.iadd, 1) := by decide +kernel
theorem dX6_firstTogether_29 : decode cX6_firstTogether 29 = .ok (.iconst 1, 1) := by decide +kernel
theorem dX6_firstTogether_30 : decode cX6_firstTogether 30 = .ok (.isub, 1) := by decide +kernel
theorem dX6_firstTogether_31 : decode cX6_firstTogether 31 = .ok (.invokevirtual 162, 3) := by decide +kernel
theorem dX6_firstTogether_34 : decode cX6_firstTogether 34 = .ok (.if_icmp .ne 5, 3) := by decide +kernel
theorem dX6_firstTogether_37 : decode cX6_firstTogether 37 = .ok (.iload_n 3, 1) := by decide +kernel
theorem dX6_firstTogether_38 : decode cX6_firstTogether 38 = .ok (.ireturn, 1) := by decide +kernel
theorem dX6_firstTogether_39 : decode cX6_firstTogether 39 = .ok (.iinc 3 1, 3) := by decide +kernel
theorem dX6_firstTogether_42 : decode cX6_firstTogether 42 = .ok (.goto (-40), 3) := by decide +kernel
theorem dX6_firstTogether_45 : decode cX6_firstTogether 45 = .ok (.iconst (-1), 1) := by decide +kernel
theorem dX6_firstTogether_46 : decode cX6_firstTogether 46 = .ok (.ireturn, 1) := by decide +kernel
theorem dX6_unseen_0 : decode cX6_unseen 0 = .ok (.iconst 0, 1) := by decide +kernel
theorem dX6_unseen_1 : decode cX6_unseen 1 = .ok (.istore_n 2, 1) := by decide +kernel
theorem dX6_unseen_2 : decode cX6_unseen 2 = .ok (.iconst 0, 1) := by decide +kernel
theorem dX6_unseen_3 : decode cX6_unseen 3 = .ok (.istore_n 3, 1) := by decide +kernel
theorem dX6_unseen_4 : decode cX6_unseen 4 = .ok (.iload_n 3, 1) := by decide +kernel
theorem dX6_unseen_5 : decode cX6_unseen 5 = .ok (.aload_n 0, 1) := by decide +kernel
theorem dX6_unseen_6 : decode cX6_unseen 6 = .ok (.getfield 47, 3) := by decide +kernel
theorem dX6_unseen_9 : decode cX6_unseen 9 = .ok (.getfield 104, 3) := by decide +kernel
theorem dX6_unseen_12 : decode cX6_unseen 12 = .ok (.if_icmp .ge 32, 3) := by decide +kernel
theorem dX6_unseen_15 : decode cX6_unseen 15 = .ok (.aload_n 0, 1) := by decide +kernel
theorem dX6_unseen_16 : decode cX6_unseen 16 = .ok (.iload_n 3, 1) := by decide +kernel
theorem dX6_unseen_17 : decode cX6_unseen 17 = .ok (.invokevirtual 165, 3) := by decide +kernel
theorem dX6_unseen_20 : decode cX6_unseen 20 = .ok (.ifCond .eq 18, 3) := by decide +kernel
theorem dX6_unseen_23 : decode cX6_unseen 23 = .ok (.aload_n 0, 1) := by decide +kernel
theorem dX6_unseen_24 : decode cX6_unseen 24 = .ok (.iload_n 3, 1) := by decide +kernel
theorem dX6_unseen_25 : decode cX6_unseen 25 = .ok (.iload_n 1, 1) := by decide +kernel
theorem dX6_unseen_26 : decode cX6_unseen 26 = .ok (.invokevirtual 168, 3) := by decide +kernel
theorem dX6_unseen_29 : decode cX6_unseen 29 = .ok (.ifCond .ne 9, 3) := by decide +kernel
theorem dX6_unseen_32 : decode cX6_unseen 32 = .ok (.iload_n 2, 1) := by decide +kernel
theorem dX6_unseen_33 : decode cX6_unseen 33 = .ok (.iconst 1, 1) := by decide +kernel
theorem dX6_unseen_34 : decode cX6_unseen 34 = .ok (.iload_n 3, 1) := by decide +kernel
theorem dX6_unseen_35 : decode cX6_unseen 35 = .ok (.ishl, 1) := by decide +kernel
theorem dX6_unseen_36 : decode cX6_unseen 36 = .ok (.ior, 1) := by decide +kernel
theorem dX6_unseen_37 : decode cX6_unseen 37 = .ok (.istore_n 2, 1) := by decide +kernel
theorem dX6_unseen_38 : decode cX6_unseen 38 = .ok (.iinc 3 1, 3) := by decide +kernel
theorem dX6_unseen_41 : decode cX6_unseen 41 = .ok (.goto (-37), 3) := by decide +kernel
theorem dX6_unseen_44 : decode cX6_unseen 44 = .ok (.iload_n 2, 1) := by decide +kernel
theorem dX6_unseen_45 : decode cX6_unseen 45 = .ok (.ireturn, 1) := by decide +kernel
theorem dX6_isSeen_0 : decode cX6_isSeen 0 = .ok (.iconst 0, 1) := by decide +kernel
theorem dX6_isSeen_1 : decode cX6_isSeen 1 = .ok (.istore_n 3, 1) := by decide +kernel
theorem dX6_isSeen_2 : decode cX6_isSeen 2 = .ok (.iload_n 3, 1) := by decide +kernel
theorem dX6_isSeen_3 : decode cX6_isSeen 3 = .ok (.iload_n 2, 1) := by decide +kernel
theorem dX6_isSeen_4 : decode cX6_isSeen 4 = .ok (.if_icmp .ge 25, 3) := by decide +kernel
theorem dX6_isSeen_7 : decode cX6_isSeen 7 = .ok (.aload_n 0, 1) := by decide +kernel
theorem dX6_isSeen_8 : decode cX6_isSeen 8 = .ok (.iload_n 1, 1) := by decide +kernel
theorem dX6_isSeen_9 : decode cX6_isSeen 9 = .ok (.aload_n 0, 1) := by decide +kernel
theorem dX6_isSeen_10 : decode cX6_isSeen 10 = .ok (.getfield 51, 3) := by decide +kernel
theorem dX6_isSeen_13 : decode cX6_isSeen 13 = .ok (.iload_n 3, 1) := by decide +kernel
theorem dX6_isSeen_14 : decode cX6_isSeen 14 = .ok (.iadd, 1) := by decide +kernel
theorem dX6_isSeen_15 : decode cX6_isSeen 15 = .ok (.invokevirtual 126, 3) := by decide +kernel
theorem dX6_isSeen_18 : decode cX6_isSeen 18 = .ok (.ifCond .eq 5, 3) := by decide +kernel
theorem dX6_isSeen_21 : decode cX6_isSeen 21 = .ok (.iconst 1, 1) := by decide +kernel
theorem dX6_isSeen_22 : decode cX6_isSeen 22 = .ok (.ireturn, 1) := by decide +kernel
theorem dX6_isSeen_23 : decode cX6_isSeen 23 = .ok (.iinc 3 1, 3) := by decide +kernel
theorem dX6_isSeen_26 : decode cX6_isSeen 26 = .ok (.goto (-24), 3) := by decide +kernel
theorem dX6_isSeen_29 : decode cX6_isSeen 29 = .ok (.iconst 0, 1) := by decide +kernel
theorem dX6_isSeen_30 : decode cX6_isSeen 30 = .ok (.ireturn, 1) := by decide +kernel
theorem dX6_wornBits_0 : decode cX6_wornBits 0 = .ok (.iconst 0, 1) := by decide +kernel
theorem dX6_wornBits_1 : decode cX6_wornBits 1 = .ok (.istore_n 1, 1) := by decide +kernel
theorem dX6_wornBits_2 : decode cX6_wornBits 2 = .ok (.iconst 0, 1) := by decide +kernel
theorem dX6_wornBits_3 : decode cX6_wornBits 3 = .ok (.istore_n 2, 1) := by decide +kernel
theorem dX6_wornBits_4 : decode cX6_wornBits 4 = .ok (.iload_n 2, 1) := by decide +kernel
theorem dX6_wornBits_5 : decode cX6_wornBits 5 = .ok (.aload_n 0, 1) := by decide +kernel
theorem dX6_wornBits_6 : decode cX6_wornBits 6 = .ok (.getfield 47, 3) := by decide +kernel
theorem dX6_wornBits_9 : decode cX6_wornBits 9 = .ok (.getfield 91, 3) := by decide +kernel
theorem dX6_wornBits_12 : decode cX6_wornBits 12 = .ok (.if_icmp .ge 25, 3) := by decide +kernel
theorem dX6_wornBits_15 : decode cX6_wornBits 15 = .ok (.aload_n 0, 1) := by decide +kernel
theorem dX6_wornBits_16 : decode cX6_wornBits 16 = .ok (.getfield 27, 3) := by decide +kernel
theorem dX6_wornBits_19 : decode cX6_wornBits 19 = .ok (.iload_n 2, 1) := by decide +kernel
theorem dX6_wornBits_20 : decode cX6_wornBits 20 = .ok (.iaload, 1) := by decide +kernel
theorem dX6_wornBits_21 : decode cX6_wornBits 21 = .ok (.iconst (-1), 1) := by decide +kernel
theorem dX6_wornBits_22 : decode cX6_wornBits 22 = .ok (.if_icmp .eq 9, 3) := by decide +kernel
theorem dX6_wornBits_25 : decode cX6_wornBits 25 = .ok (.iload_n 1, 1) := by decide +kernel
theorem dX6_wornBits_26 : decode cX6_wornBits 26 = .ok (.iconst 1, 1) := by decide +kernel
theorem dX6_wornBits_27 : decode cX6_wornBits 27 = .ok (.iload_n 2, 1) := by decide +kernel
theorem dX6_wornBits_28 : decode cX6_wornBits 28 = .ok (.ishl, 1) := by decide +kernel
theorem dX6_wornBits_29 : decode cX6_wornBits 29 = .ok (.ior, 1) := by decide +kernel
theorem dX6_wornBits_30 : decode cX6_wornBits 30 = .ok (.istore_n 1, 1) := by decide +kernel
theorem dX6_wornBits_31 : decode cX6_wornBits 31 = .ok (.iinc 2 1, 3) := by decide +kernel
theorem dX6_wornBits_34 : decode cX6_wornBits 34 = .ok (.goto (-30), 3) := by decide +kernel
theorem dX6_wornBits_37 : decode cX6_wornBits 37 = .ok (.iload_n 1, 1) := by decide +kernel
theorem dX6_wornBits_38 : decode cX6_wornBits 38 = .ok (.ireturn, 1) := by decide +kernel
theorem dX6_wearsBits_0 : decode cX6_wearsBits 0 = .ok (.iconst 0, 1) := by decide +kernel
theorem dX6_wearsBits_1 : decode cX6_wearsBits 1 = .ok (.istore_n 2, 1) := by decide +kernel
theorem dX6_wearsBits_2 : decode cX6_wearsBits 2 = .ok (.iconst 0, 1) := by decide +kernel
theorem dX6_wearsBits_3 : decode cX6_wearsBits 3 = .ok (.istore_n 3, 1) := by decide +kernel
theorem dX6_wearsBits_4 : decode cX6_wearsBits 4 = .ok (.iload_n 3, 1) := by decide +kernel
theorem dX6_wearsBits_5 : decode cX6_wearsBits 5 = .ok (.aload_n 0, 1) := by decide +kernel
theorem dX6_wearsBits_6 : decode cX6_wearsBits 6 = .ok (.getfield 47, 3) := by decide +kernel
theorem dX6_wearsBits_9 : decode cX6_wearsBits 9 = .ok (.getfield 91, 3) := by decide +kernel
theorem dX6_wearsBits_12 : decode cX6_wearsBits 12 = .ok (.if_icmp .ge 25, 3) := by decide +kernel
theorem dX6_wearsBits_15 : decode cX6_wearsBits 15 = .ok (.aload_n 0, 1) := by decide +kernel
theorem dX6_wearsBits_16 : decode cX6_wearsBits 16 = .ok (.getfield 27, 3) := by decide +kernel
theorem dX6_wearsBits_19 : decode cX6_wearsBits 19 = .ok (.iload_n 3, 1) := by decide +kernel
theorem dX6_wearsBits_20 : decode cX6_wearsBits 20 = .ok (.iaload, 1) := by decide +kernel
theorem dX6_wearsBits_21 : decode cX6_wearsBits 21 = .ok (.iload_n 1, 1) := by decide +kernel
theorem dX6_wearsBits_22 : decode cX6_wearsBits 22 = .ok (.if_icmp .ne 9, 3) := by decide +kernel
theorem dX6_wearsBits_25 : decode cX6_wearsBits 25 = .ok (.iload_n 2, 1) := by decide +kernel
theorem dX6_wearsBits_26 : decode cX6_wearsBits 26 = .ok (.iconst 1, 1) := by decide +kernel
theorem dX6_wearsBits_27 : decode cX6_wearsBits 27 = .ok (.iload_n 3, 1) := by decide +kernel
theorem dX6_wearsBits_28 : decode cX6_wearsBits 28 = .ok (.ishl, 1) := by decide +kernel
theorem dX6_wearsBits_29 : decode cX6_wearsBits 29 = .ok (.ior, 1) := by decide +kernel
theorem dX6_wearsBits_30 : decode cX6_wearsBits 30 = .ok (.istore_n 2, 1) := by decide +kernel
theorem dX6_wearsBits_31 : decode cX6_wearsBits 31 = .ok (.iinc 3 1, 3) := by decide +kernel
theorem dX6_wearsBits_34 : decode cX6_wearsBits 34 = .ok (.goto (-30), 3) := by decide +kernel
theorem dX6_wearsBits_37 : decode cX6_wearsBits 37 = .ok (.iload_n 2, 1) := by decide +kernel
theorem dX6_wearsBits_38 : decode cX6_wearsBits 38 = .ok (.ireturn, 1) := by decide +kernel
theorem dX6_ownsBits_0 : decode cX6_ownsBits 0 = .ok (.iconst 0, 1) := by decide +kernel
theorem dX6_ownsBits_1 : decode cX6_ownsBits 1 = .ok (.istore_n 2, 1) := by decide +kernel
theorem dX6_ownsBits_2 : decode cX6_ownsBits 2 = .ok (.iconst 0, 1) := by decide +kernel
theorem dX6_ownsBits_3 : decode cX6_ownsBits 3 = .ok (.istore_n 3, 1) := by decide +kernel
theorem dX6_ownsBits_4 : decode cX6_ownsBits 4 = .ok (.iload_n 3, 1) := by decide +kernel
theorem dX6_ownsBits_5 : decode cX6_ownsBits 5 = .ok (.aload_n 0, 1) := by decide +kernel
theorem dX6_ownsBits_6 : decode cX6_ownsBits 6 = .ok (.getfield 47, 3) := by decide +kernel
theorem dX6_ownsBits_9 : decode cX6_ownsBits 9 = .ok (.getfield 91, 3) := by decide +kernel
theorem dX6_ownsBits_12 : decode cX6_ownsBits 12 = .ok (.if_icmp .ge 25, 3) := by decide +kernel
theorem dX6_ownsBits_15 : decode cX6_ownsBits 15 = .ok (.aload_n 0, 1) := by decide +kernel
theorem dX6_ownsBits_16 : decode cX6_ownsBits 16 = .ok (.getfield 24, 3) := by decide +kernel
theorem dX6_ownsBits_19 : decode cX6_ownsBits 19 = .ok (.iload_n 3, 1) := by decide +kernel
theorem dX6_ownsBits_20 : decode cX6_ownsBits 20 = .ok (.iaload, 1) := by decide +kernel
theorem dX6_ownsBits_21 : decode cX6_ownsBits 21 = .ok (.iload_n 1, 1) := by decide +kernel
theorem dX6_ownsBits_22 : decode cX6_ownsBits 22 = .ok (.if_icmp .ne 9, 3) := by decide +kernel
theorem dX6_ownsBits_25 : decode cX6_ownsBits 25 = .ok (.iload_n 2, 1) := by decide +kernel
theorem dX6_ownsBits_26 : decode cX6_ownsBits 26 = .ok (.iconst 1, 1) := by decide +kernel
theorem dX6_ownsBits_27 : decode cX6_ownsBits 27 = .ok (.iload_n 3, 1) := by decide +kernel
theorem dX6_ownsBits_28 : decode cX6_ownsBits 28 = .ok (.ishl, 1) := by decide +kernel
theorem dX6_ownsBits_29 : decode cX6_ownsBits 29 = .ok (.ior, 1) := by decide +kernel
theorem dX6_ownsBits_30 : decode cX6_ownsBits 30 = .ok (.istore_n 2, 1) := by decide +kernel
theorem dX6_ownsBits_31 : decode cX6_ownsBits 31 = .ok (.iinc 3 1, 3) := by decide +kernel
theorem dX6_ownsBits_34 : decode cX6_ownsBits 34 = .ok (.goto (-30), 3) := by decide +kernel
theorem dX6_ownsBits_37 : decode cX6_ownsBits 37 = .ok (.iload_n 2, 1) := by decide +kernel
theorem dX6_ownsBits_38 : decode cX6_ownsBits 38 = .ok (.ireturn, 1) := by decide +kernel
theorem dX6_missed_0 : decode cX6_missed 0 = .ok (.aload_n 0, 1) := by decide +kernel
theorem dX6_missed_1 : decode cX6_missed 1 = .ok (.iload_n 1, 1) := by decide +kernel
theorem dX6_missed_2 : decode cX6_missed 2 = .ok (.invokevirtual 172, 3) := by decide +kernel
theorem dX6_missed_5 : decode cX6_missed 5 = .ok (.aload_n 0, 1) := by decide +kernel
theorem dX6_missed_6 : decode cX6_missed 6 = .ok (.invokevirtual 175, 3) := by decide +kernel
theorem dX6_missed_9 : decode cX6_missed 9 = .ok (.iand, 1) := by decide +kernel
theorem dX6_missed_10 : decode cX6_missed 10 = .ok (.ireturn, 1) := by decide +kernel
theorem dX6_load_0 : decode cX6_load 0 = .ok (.aload_n 0, 1) := by decide +kernel
theorem dX6_load_1 : decode cX6_load 1 = .ok (.aload_n 0, 1) := by decide +kernel
theorem dX6_load_2 : decode cX6_load 2 = .ok (.iload_n 1, 1) := by decide +kernel
theorem dX6_load_3 : decode cX6_load 3 = .ok (.invokevirtual 165, 3) := by decide +kernel
theorem dX6_load_6 : decode cX6_load 6 = .ok (.invokevirtual 179, 3) := by decide +kernel
theorem dX6_load_9 : decode cX6_load 9 = .ok (.ireturn, 1) := by decide +kernel
theorem dX6_wealth_0 : decode cX6_wealth 0 = .ok (.aload_n 0, 1) := by decide +kernel
theorem dX6_wealth_1 : decode cX6_wealth 1 = .ok (.aload_n 0, 1) := by decide +kernel
theorem dX6_wealth_2 : decode cX6_wealth 2 = .ok (.iload_n 1, 1) := by decide +kernel
theorem dX6_wealth_3 : decode cX6_wealth 3 = .ok (.invokevirtual 172, 3) := by decide +kernel
theorem dX6_wealth_6 : decode cX6_wealth 6 = .ok (.invokevirtual 179, 3) := by decide +kernel
theorem dX6_wealth_9 : decode cX6_wealth 9 = .ok (.ireturn, 1) := by decide +kernel
theorem dX6_weightOf_0 : decode cX6_weightOf 0 = .ok (.iconst 0, 1) := by decide +kernel
theorem dX6_weightOf_1 : decode cX6_weightOf 1 = .ok (.istore_n 2, 1) := by decide +kernel
theorem dX6_weightOf_2 : decode cX6_weightOf 2 = .ok (.iconst 0, 1) := by decide +kernel
theorem dX6_weightOf_3 : decode cX6_weightOf 3 = .ok (.istore_n 3, 1) := by decide +kernel
theorem dX6_weightOf_4 : decode cX6_weightOf 4 = .ok (.iload_n 3, 1) := by decide +kernel
theorem dX6_weightOf_5 : decode cX6_weightOf 5 = .ok (.aload_n 0, 1) := by decide +kernel
theorem dX6_weightOf_6 : decode cX6_weightOf 6 = .ok (.getfield 47, 3) := by decide +kernel
theorem dX6_weightOf_9 : decode cX6_weightOf 9 = .ok (.getfield 91, 3) := by decide +kernel
theorem dX6_weightOf_12 : decode cX6_weightOf 12 = .ok (.if_icmp .ge 29, 3) := by decide +kernel
theorem dX6_weightOf_15 : decode cX6_weightOf 15 = .ok (.iload_n 1, 1) := by decide +kernel
theorem dX6_weightOf_16 : decode cX6_weightOf 16 = .ok (.iload_n 3, 1) := by decide +kernel
theorem dX6_weightOf_17 : decode cX6_weightOf 17 = .ok (.ishr, 1) := by decide +kernel
theorem dX6_weightOf_18 : decode cX6_weightOf 18 = .ok (.iconst 1, 1) := by decide +kernel
theorem dX6_weightOf_19 : decode cX6_weightOf 19 = .ok (.iand, 1) := by decide +kernel
theorem dX6_weightOf_20 : decode cX6_weightOf 20 = .ok (.ifCond .eq 15, 3) := by decide +kernel
theorem dX6_weightOf_23 : decode cX6_weightOf 23 = .ok (.iload_n 2, 1) := by decide +kernel
theorem dX6_weightOf_24 : decode cX6_weightOf 24 = .ok (.aload_n 0, 1) := by decide +kernel
theorem dX6_weightOf_25 : decode cX6_weightOf 25 = .ok (.getfield 47, 3) := by decide +kernel
theorem dX6_weightOf_28 : decode cX6_weightOf 28 = .ok (.getfield 143, 3) := by decide +kernel
theorem dX6_weightOf_31 : decode cX6_weightOf 31 = .ok (.iload_n 3, 1) := by decide +kernel
theorem dX6_weightOf_32 : decode cX6_weightOf 32 = .ok (.iaload, 1) := by decide +kernel
theorem dX6_weightOf_33 : decode cX6_weightOf 33 = .ok (.iadd, 1) := by decide +kernel
theorem dX6_weightOf_34 : decode cX6_weightOf 34 = .ok (.istore_n 2, 1) := by decide +kernel
theorem dX6_weightOf_35 : decode cX6_weightOf 35 = .ok (.iinc 3 1, 3) := by decide +kernel
theorem dX6_weightOf_38 : decode cX6_weightOf 38 = .ok (.goto (-34), 3) := by decide +kernel
theorem dX6_weightOf_41 : decode cX6_weightOf 41 = .ok (.iload_n 2, 1) := by decide +kernel
theorem dX6_weightOf_42 : decode cX6_weightOf 42 = .ok (.ireturn, 1) := by decide +kernel
theorem dX6_oddest_0 : decode cX6_oddest 0 = .ok (.iconst (-1), 1) := by decide +kernel
theorem dX6_oddest_1 : decode cX6_oddest 1 = .ok (.istore_n 2, 1) := by decide +kernel
theorem dX6_oddest_2 : decode cX6_oddest 2 = .ok (.iconst 0, 1) := by decide +kernel
theorem dX6_oddest_3 : decode cX6_oddest 3 = .ok (.istore_n 3, 1) := by decide +kernel
theorem dX6_oddest_4 : decode cX6_oddest 4 = .ok (.iload_n 3, 1) := by decide +kernel
theorem dX6_oddest_5 : decode cX6_oddest 5 = .ok (.aload_n 0, 1) := by decide +kernel
theorem dX6_oddest_6 : decode cX6_oddest 6 = .ok (.getfield 47, 3) := by decide +kernel
theorem dX6_oddest_9 : decode cX6_oddest 9 = .ok (.getfield 91, 3) := by decide +kernel
theorem dX6_oddest_12 : decode cX6_oddest 12 = .ok (.if_icmp .ge 41, 3) := by decide +kernel
theorem dX6_oddest_15 : decode cX6_oddest 15 = .ok (.aload_n 0, 1) := by decide +kernel
theorem dX6_oddest_16 : decode cX6_oddest 16 = .ok (.getfield 27, 3) := by decide +kernel
theorem dX6_oddest_19 : decode cX6_oddest 19 = .ok (.iload_n 3, 1) := by decide +kernel
theorem dX6_oddest_20 : decode cX6_oddest 20 = .ok (.iaload, 1) := by decide +kernel
theorem dX6_oddest_21 : decode cX6_oddest 21 = .ok (.iload_n 1, 1) := by decide +kernel
theorem dX6_oddest_22 : decode cX6_oddest 22 = .ok (.if_icmp .ne 25, 3) := by decide +kernel
theorem dX6_oddest_25 : decode cX6_oddest 25 = .ok (.iload_n 2, 1) := by decide +kernel
theorem dX6_oddest_26 : decode cX6_oddest 26 = .ok (.iconst (-1), 1) := by decide +kernel
theorem dX6_oddest_27 : decode cX6_oddest 27 = .ok (.if_icmp .eq 18, 3) := by decide +kernel
theorem dX6_oddest_30 : decode cX6_oddest 30 = .ok (.aload_n 0, 1) := by decide +kernel
theorem dX6_oddest_31 : decode cX6_oddest 31 = .ok (.getfield 21, 3) := by decide +kernel
theorem dX6_oddest_34 : decode cX6_oddest 34 = .ok (.iload_n 3, 1) := by decide +kernel
theorem dX6_oddest_35 : decode cX6_oddest 35 = .ok (.iaload, 1) := by decide +kernel
theorem dX6_oddest_36 : decode cX6_oddest 36 = .ok (.aload_n 0, 1) := by decide +kernel
theorem dX6_oddest_37 : decode cX6_oddest 37 = .ok (.getfield 21, 3) := by decide +kernel
theorem dX6_oddest_40 : decode cX6_oddest 40 = .ok (.iload_n 2, 1) := by decide +kernel
theorem dX6_oddest_41 : decode cX6_oddest 41 = .ok (.iaload, 1) := by decide +kernel
theorem dX6_oddest_42 : decode cX6_oddest 42 = .ok (.if_icmp .le 5, 3) := by decide +kernel
theorem dX6_oddest_45 : decode cX6_oddest 45 = .ok (.iload_n 3, 1) := by decide +kernel
theorem dX6_oddest_46 : decode cX6_oddest 46 = .ok (.istore_n 2, 1) := by decide +kernel
theorem dX6_oddest_47 : decode cX6_oddest 47 = .ok (.iinc 3 1, 3) := by decide +kernel
theorem dX6_oddest_50 : decode cX6_oddest 50 = .ok (.goto (-46), 3) := by decide +kernel
theorem dX6_oddest_53 : decode cX6_oddest 53 = .ok (.iload_n 2, 1) := by decide +kernel
theorem dX6_oddest_54 : decode cX6_oddest 54 = .ok (.ireturn, 1) := by decide +kernel
theorem dX6_richest_0 : decode cX6_richest 0 = .ok (.iconst (-1), 1) := by decide +kernel
theorem dX6_richest_1 : decode cX6_richest 1 = .ok (.istore_n 1, 1) := by decide +kernel
theorem dX6_richest_2 : decode cX6_richest 2 = .ok (.iconst 0, 1) := by decide +kernel
theorem dX6_richest_3 : decode cX6_richest 3 = .ok (.istore_n 2, 1) := by decide +kernel
theorem dX6_richest_4 : decode cX6_richest 4 = .ok (.iload_n 2, 1) := by decide +kernel
theorem dX6_richest_5 : decode cX6_richest 5 = .ok (.aload_n 0, 1) := by decide +kernel
theorem dX6_richest_6 : decode cX6_richest 6 = .ok (.getfield 47, 3) := by decide +kernel
theorem dX6_richest_9 : decode cX6_richest 9 = .ok (.getfield 104, 3) := by decide +kernel
theorem dX6_richest_12 : decode cX6_richest 12 = .ok (.if_icmp .ge 29, 3) := by decide +kernel
theorem dX6_richest_15 : decode cX6_richest 15 = .ok (.iload_n 1, 1) := by decide +kernel
theorem dX6_richest_16 : decode cX6_richest 16 = .ok (.iconst (-1), 1) := by decide +kernel
theorem dX6_richest_17 : decode cX6_richest 17 = .ok (.if_icmp .eq 16, 3) := by decide +kernel
theorem dX6_richest_20 : decode cX6_richest 20 = .ok (.aload_n 0, 1) := by decide +kernel
theorem dX6_richest_21 : decode cX6_richest 21 = .ok (.iload_n 2, 1) := by decide +kernel
theorem dX6_richest_22 : decode cX6_richest 22 = .ok (.invokevirtual 182, 3) := by decide +kernel
theorem dX6_richest_25 : decode cX6_richest 25 = .ok (.aload_n 0, 1) := by decide +kernel
theorem dX6_richest_26 : decode cX6_richest 26 = .ok (.iload_n 1, 1) := by decide +kernel
theorem dX6_richest_27 : decode cX6_richest 27 = .ok (.invokevirtual 182, 3) := by decide +kernel
theorem dX6_richest_30 : decode cX6_richest 30 = .ok (.if_icmp .le 5, 3) := by decide +kernel
theorem dX6_richest_33 : decode cX6_richest 33 = .ok (.iload_n 2, 1) := by decide +kernel
theorem dX6_richest_34 : decode cX6_richest 34 = .ok (.istore_n 1, 1) := by decide +kernel
theorem dX6_richest_35 : decode cX6_richest 35 = .ok (.iinc 2 1, 3) := by decide +kernel
theorem dX6_richest_38 : decode cX6_richest 38 = .ok (.goto (-34), 3) := by decide +kernel
theorem dX6_richest_41 : decode cX6_richest 41 = .ok (.iload_n 1, 1) := by decide +kernel
theorem dX6_richest_42 : decode cX6_richest 42 = .ok (.ireturn, 1) := by decide +kernel
theorem dX6_mostAshamed_0 : decode cX6_mostAshamed 0 = .ok (.iconst (-1), 1) := by decide +kernel
theorem dX6_mostAshamed_1 : decode cX6_mostAshamed 1 = .ok (.istore_n 1, 1) := by decide +kernel
theorem dX6_mostAshamed_2 : decode cX6_mostAshamed 2 = .ok (.iconst 0, 1) := by decide +kernel
theorem dX6_mostAshamed_3 : decode cX6_mostAshamed 3 = .ok (.istore_n 2, 1) := by decide +kernel
theorem dX6_mostAshamed_4 : decode cX6_mostAshamed 4 = .ok (.iload_n 2, 1) := by decide +kernel
theorem dX6_mostAshamed_5 : decode cX6_mostAshamed 5 = .ok (.aload_n 0, 1) := by decide +kernel
theorem dX6_mostAshamed_6 : decode cX6_mostAshamed 6 = .ok (.getfield 47, 3) := by decide +kernel
theorem dX6_mostAshamed_9 : decode cX6_mostAshamed 9 = .ok (.getfield 104, 3) := by decide +kernel
theorem dX6_mostAshamed_12 : decode cX6_mostAshamed 12 = .ok (.if_icmp .ge 31, 3) := by decide +kernel
theorem dX6_mostAshamed_15 : decode cX6_mostAshamed 15 = .ok (.iload_n 1, 1) := by decide +kernel
theorem dX6_mostAshamed_16 : decode cX6_mostAshamed 16 = .ok (.iconst (-1), 1) := by decide +kernel
theorem dX6_mostAshamed_17 : decode cX6_mostAshamed 17 = .ok (.if_icmp .eq 18, 3) := by decide +kernel
theorem dX6_mostAshamed_20 : decode cX6_mostAshamed 20 = .ok (.aload_n 0, 1) := by decide +kernel
theorem dX6_mostAshamed_21 : decode cX6_mostAshamed 21 = .ok (.getfield 15, 3) := by decide +kernel
theorem dX6_mostAshamed_24 : decode cX6_mostAshamed 24 = .ok (.iload_n 2, 1) := by decide +kernel
theorem dX6_mostAshamed_25 : decode cX6_mostAshamed 25 = .ok (.iaload, 1) := by decide +kernel
theorem dX6_mostAshamed_26 : decode cX6_mostAshamed 26 = .ok (.aload_n 0, 1) := by decide +kernel
theorem dX6_mostAshamed_27 : decode cX6_mostAshamed 27 = .ok (.getfield 15, 3) := by decide +kernel
theorem dX6_mostAshamed_30 : decode cX6_mostAshamed 30 = .ok (.iload_n 1, 1) := by decide +kernel
theorem dX6_mostAshamed_31 : decode cX6_mostAshamed 31 = .ok (.iaload, 1) := by decide +kernel
theorem dX6_mostAshamed_32 : decode cX6_mostAshamed 32 = .ok (.if_icmp .le 5, 3) := by decide +kernel
theorem dX6_mostAshamed_35 : decode cX6_mostAshamed 35 = .ok (.iload_n 2, 1) := by decide +kernel
theorem dX6_mostAshamed_36 : decode cX6_mostAshamed 36 = .ok (.istore_n 1, 1) := by decide +kernel
theorem dX6_mostAshamed_37 : decode cX6_mostAshamed 37 = .ok (.iinc 2 1, 3) := by decide +kernel
theorem dX6_mostAshamed_40 : decode cX6_mostAshamed 40 = .ok (.goto (-36), 3) := by decide +kernel
theorem dX6_mostAshamed_43 : decode cX6_mostAshamed 43 = .ok (.iload_n 1, 1) := by decide +kernel
theorem dX6_mostAshamed_44 : decode cX6_mostAshamed 44 = .ok (.ireturn, 1) := by decide +kernel
theorem dX6_shameOfAll_0 : decode cX6_shameOfAll 0 = .ok (.iconst 0, 1) := by decide +kernel
theorem dX6_shameOfAll_1 : decode cX6_shameOfAll 1 = .ok (.istore_n 1, 1) := by decide +kernel
theorem dX6_shameOfAll_2 : decode cX6_shameOfAll 2 = .ok (.iconst 0, 1) := by decide +kernel
theorem dX6_shameOfAll_3 : decode cX6_shameOfAll 3 = .ok (.istore_n 2, 1) := by decide +kernel
theorem dX6_shameOfAll_4 : decode cX6_shameOfAll 4 = .ok (.iload_n 2, 1) := by decide +kernel
theorem dX6_shameOfAll_5 : decode cX6_shameOfAll 5 = .ok (.aload_n 0, 1) := by decide +kernel
theorem dX6_shameOfAll_6 : decode cX6_shameOfAll 6 = .ok (.getfield 47, 3) := by decide +kernel
theorem dX6_shameOfAll_9 : decode cX6_shameOfAll 9 = .ok (.getfield 104, 3) := by decide +kernel
theorem dX6_shameOfAll_12 : decode cX6_shameOfAll 12 = .ok (.if_icmp .ge 18, 3) := by decide +kernel
theorem dX6_shameOfAll_15 : decode cX6_shameOfAll 15 = .ok (.iload_n 1, 1) := by decide +kernel
theorem dX6_shameOfAll_16 : decode cX6_shameOfAll 16 = .ok (.aload_n 0, 1) := by decide +kernel
theorem dX6_shameOfAll_17 : decode cX6_shameOfAll 17 = .ok (.getfield 15, 3) := by decide +kernel
theorem dX6_shameOfAll_20 : decode cX6_shameOfAll 20 = .ok (.iload_n 2, 1) := by decide +kernel
theorem dX6_shameOfAll_21 : decode cX6_shameOfAll 21 = .ok (.iaload, 1) := by decide +kernel
theorem dX6_shameOfAll_22 : decode cX6_shameOfAll 22 = .ok (.iadd, 1) := by decide +kernel
theorem dX6_shameOfAll_23 : decode cX6_shameOfAll 23 = .ok (.istore_n 1, 1) := by decide +kernel
theorem dX6_shameOfAll_24 : decode cX6_shameOfAll 24 = .ok (.iinc 2 1, 3) := by decide +kernel
theorem dX6_shameOfAll_27 : decode cX6_shameOfAll 27 = .ok (.goto (-23), 3) := by decide +kernel
theorem dX6_shameOfAll_30 : decode cX6_shameOfAll 30 = .ok (.iload_n 1, 1) := by decide +kernel
theorem dX6_shameOfAll_31 : decode cX6_shameOfAll 31 = .ok (.ireturn, 1) := by decide +kernel
