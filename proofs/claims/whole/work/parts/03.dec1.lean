theorem dX0_init_0 : decode cX0_init 0 = .ok (.aload_n 0, 1) := by decide +kernel
theorem dX0_init_1 : decode cX0_init 1 = .ok (.invokespecial 3, 3) := by decide +kernel
theorem dX0_init_4 : decode cX0_init 4 = .ok (.aload_n 0, 1) := by decide +kernel
theorem dX0_init_5 : decode cX0_init 5 = .ok (.bipush 8, 2) := by decide +kernel
theorem dX0_init_7 : decode cX0_init 7 = .ok (.newarray .int, 2) := by decide +kernel
theorem dX0_init_9 : decode cX0_init 9 = .ok (.putfield 9, 3) := by decide +kernel
theorem dX0_init_12 : decode cX0_init 12 = .ok (.aload_n 0, 1) := by decide +kernel
theorem dX0_init_13 : decode cX0_init 13 = .ok (.bipush 8, 2) := by decide +kernel
theorem dX0_init_15 : decode cX0_init 15 = .ok (.newarray .int, 2) := by decide +kernel
theorem dX0_init_17 : decode cX0_init 17 = .ok (.putfield 15, 3) := by decide +kernel
theorem dX0_init_20 : decode cX0_init 20 = .ok (.aload_n 0, 1) := by decide +kernel
theorem dX0_init_21 : decode cX0_init 21 = .ok (.bipush 8, 2) := by decide +kernel
theorem dX0_init_23 : decode cX0_init 23 = .ok (.newarray .int, 2) := by decide +kernel
theorem dX0_init_25 : decode cX0_init 25 = .ok (.putfield 18, 3) := by decide +kernel
theorem dX0_init_28 : decode cX0_init 28 = .ok (.aload_n 0, 1) := by decide +kernel
theorem dX0_init_29 : decode cX0_init 29 = .ok (.bipush 8, 2) := by decide +kernel
theorem dX0_init_31 : decode cX0_init 31 = .ok (.newarray .int, 2) := by decide +kernel
theorem dX0_init_33 : decode cX0_init 33 = .ok (.putfield 21, 3) := by decide +kernel
theorem dX0_init_36 : decode cX0_init 36 = .ok (.aload_n 0, 1) := by decide +kernel
theorem dX0_init_37 : decode cX0_init 37 = .ok (.bipush 48, 2) := by decide +kernel
theorem dX0_init_39 : decode cX0_init 39 = .ok (.newarray .int, 2) := by decide +kernel
theorem dX0_init_41 : decode cX0_init 41 = .ok (.putfield 24, 3) := by decide +kernel
theorem dX0_init_44 : decode cX0_init 44 = .ok (.aload_n 0, 1) := by decide +kernel
theorem dX0_init_45 : decode cX0_init 45 = .ok (.bipush 6, 2) := by decide +kernel
theorem dX0_init_47 : decode cX0_init 47 = .ok (.newarray .int, 2) := by decide +kernel
theorem dX0_init_49 : decode cX0_init 49 = .ok (.putfield 27, 3) := by decide +kernel
theorem dX0_init_52 : decode cX0_init 52 = .ok (.aload_n 0, 1) := by decide +kernel
theorem dX0_init_53 : decode cX0_init 53 = .ok (.bipush 6, 2) := by decide +kernel
theorem dX0_init_55 : decode cX0_init 55 = .ok (.newarray .int, 2) := by decide +kernel
theorem dX0_init_57 : decode cX0_init 57 = .ok (.putfield 30, 3) := by decide +kernel
theorem dX0_init_60 : decode cX0_init 60 = .ok (.aload_n 0, 1) := by decide +kernel
theorem dX0_init_61 : decode cX0_init 61 = .ok (.iconst 1, 1) := by decide +kernel
theorem dX0_init_62 : decode cX0_init 62 = .ok (.putfield 33, 3) := by decide +kernel
theorem dX0_init_65 : decode cX0_init 65 = .ok (.aload_n 0, 1) := by decide +kernel
theorem dX0_init_66 : decode cX0_init 66 = .ok (.iconst 3, 1) := by decide +kernel
theorem dX0_init_67 : decode cX0_init 67 = .ok (.newarray .int, 2) := by decide +kernel
theorem dX0_init_69 : decode cX0_init 69 = .ok (.dup, 1) := by decide +kernel
theorem dX0_init_70 : decode cX0_init 70 = .ok (.iconst 0, 1) := by decide +kernel
theorem dX0_init_71 : decode cX0_init 71 = .ok (.iconst (-1), 1) := by decide +kernel
theorem dX0_init_72 : decode cX0_init 72 = .ok (.iastore, 1) := by decide +kernel
theorem dX0_init_73 : decode cX0_init 73 = .ok (.dup, 1) := by decide +kernel
theorem dX0_init_74 : decode cX0_init 74 = .ok (.iconst 1, 1) := by decide +kernel
theorem dX0_init_75 : decode cX0_init 75 = .ok (.iconst (-1), 1) := by decide +kernel
theorem dX0_init_76 : decode cX0_init 76 = .ok (.iastore, 1) := by decide +kernel
theorem dX0_init_77 : decode cX0_init 77 = .ok (.dup, 1) := by decide +kernel
theorem dX0_init_78 : decode cX0_init 78 = .ok (.iconst 2, 1) := by decide +kernel
theorem dX0_init_79 : decode cX0_init 79 = .ok (.iconst (-1), 1) := by decide +kernel
theorem dX0_init_80 : decode cX0_init 80 = .ok (.iastore, 1) := by decide +kernel
theorem dX0_init_81 : decode cX0_init 81 = .ok (.putfield 37, 3) := by decide +kernel
theorem dX0_init_84 : decode cX0_init 84 = .ok (.aload_n 0, 1) := by decide +kernel
theorem dX0_init_85 : decode cX0_init 85 = .ok (.aload_n 1, 1) := by decide +kernel
theorem dX0_init_86 : decode cX0_init 86 = .ok (.putfield 40, 3) := by decide +kernel
theorem dX0_init_89 : decode cX0_init 89 = .ok (.return_, 1) := by decide +kernel
theorem dX0_takeOver_0 : decode cX0_takeOver 0 = .ok (.aload_n 0, 1) := by decide +kernel
theorem dX0_takeOver_1 : decode cX0_takeOver 1 = .ok (.aload_n 1, 1) := by decide +kernel
theorem dX0_takeOver_2 : decode cX0_takeOver 2 = .ok (.getfield 44, 3) := by decide +kernel
theorem dX0_takeOver_5 : decode cX0_takeOver 5 = .ok (.putfield 44, 3) := by decide +kernel
theorem dX0_takeOver_8 : decode cX0_takeOver 8 = .ok (.aload_n 1, 1) := by decide +kernel
theorem dX0_takeOver_9 : decode cX0_takeOver 9 = .ok (.getfield 9, 3) := by decide +kernel
theorem dX0_takeOver_12 : decode cX0_takeOver 12 = .ok (.iconst 0, 1) := by decide +kernel
theorem dX0_takeOver_13 : decode cX0_takeOver 13 = .ok (.aload_n 0, 1) := by decide +kernel
theorem dX0_takeOver_14 : decode cX0_takeOver 14 = .ok (.getfield 9, 3) := by decide +kernel
theorem dX0_takeOver_17 : decode cX0_takeOver 17 = .ok (.iconst 0, 1) := by decide +kernel
theorem dX0_takeOver_18 : decode cX0_takeOver 18 = .ok (.bipush 8, 2) := by decide +kernel
theorem dX0_takeOver_20 : decode cX0_takeOver 20 = .ok (.invokestatic 47, 3) := by decide +kernel
theorem dX0_takeOver_23 : decode cX0_takeOver 23 = .ok (.aload_n 1, 1) := by decide +kernel
theorem dX0_takeOver_24 : decode cX0_takeOver 24 = .ok (.getfield 15, 3) := by decide +kernel
theorem dX0_takeOver_27 : decode cX0_takeOver 27 = .ok (.iconst 0, 1) := by decide +kernel
theorem dX0_takeOver_28 : decode cX0_takeOver 28 = .ok (.aload_n 0, 1) := by decide +kernel
theorem dX0_takeOver_29 : decode cX0_takeOver 29 = .ok (.getfield 15, 3) := by decide +kernel
theorem dX0_takeOver_32 : decode cX0_takeOver 32 = .ok (.iconst 0, 1) := by decide +kernel
theorem dX0_takeOver_33 : decode cX0_takeOver 33 = .ok (.bipush 8, 2) := by decide +kernel
theorem dX0_takeOver_35 : decode cX0_takeOver 35 = .ok (.invokestatic 47, 3) := by decide +kernel
theorem dX0_takeOver_38 : decode cX0_takeOver 38 = .ok (.aload_n 1, 1) := by decide +kernel
theorem dX0_takeOver_39 : decode cX0_takeOver 39 = .ok (.getfield 18, 3) := by decide +kernel
theorem dX0_takeOver_42 : decode cX0_takeOver 42 = .ok (.iconst 0, 1) := by decide +kernel
theorem dX0_takeOver_43 : decode cX0_takeOver 43 = .ok (.aload_n 0, 1) := by decide +kernel
theorem dX0_takeOver_44 : decode cX0_takeOver 44 = .ok (.getfield 18, 3) := by decide +kernel
theorem dX0_takeOver_47 : decode cX0_takeOver 47 = .ok (.iconst 0, 1) := by decide +kernel
theorem dX0_takeOver_48 : decode cX0_takeOver 48 = .ok (.bipush 8, 2) := by decide +kernel
theorem dX0_takeOver_50 : decode cX0_takeOver 50 = .ok (.invokestatic 47, 3) := by decide +kernel
theorem dX0_takeOver_53 : decode cX0_takeOver 53 = .ok (.aload_n 1, 1) := by decide +kernel
theorem dX0_takeOver_54 : decode cX0_takeOver 54 = .ok (.getfield 21, 3) := by decide +kernel
theorem dX0_takeOver_57 : decode cX0_takeOver 57 = .ok (.iconst 0, 1) := by decide +kernel
theorem dX0_takeOver_58 : decode cX0_takeOver 58 = .ok (.aload_n 0, 1) := by decide +kernel
theorem dX0_takeOver_59 : decode cX0_takeOver 59 = .ok (.getfield 21, 3) := by decide +kernel
theorem dX0_takeOver_62 : decode cX0_takeOver 62 = .ok (.iconst 0, 1) := by decide +kernel
theorem dX0_takeOver_63 : decode cX0_takeOver 63 = .ok (.bipush 8, 2) := by decide +kernel
theorem dX0_takeOver_65 : decode cX0_takeOver 65 = .ok (.invokestatic 47, 3) := by decide +kernel
theorem dX0_takeOver_68 : decode cX0_takeOver 68 = .ok (.aload_n 1, 1) := by decide +kernel
theorem dX0_takeOver_69 : decode cX0_takeOver 69 = .ok (.getfield 24, 3) := by decide +kernel
theorem dX0_takeOver_72 : decode cX0_takeOver 72 = .ok (.iconst 0, 1) := by decide +kernel
theorem dX0_takeOver_73 : decode cX0_takeOver 73 = .ok (.aload_n 0, 1) := by decide +kernel
theorem dX0_takeOver_74 : decode cX0_takeOver 74 = .ok (.getfield 24, 3) := by decide +kernel
theorem dX0_takeOver_77 : decode cX0_takeOver 77 = .ok (.iconst 0, 1) := by decide +kernel
theorem dX0_takeOver_78 : decode cX0_takeOver 78 = .ok (.bipush 48, 2) := by decide +kernel
theorem dX0_takeOver_80 : decode cX0_takeOver 80 = .ok (.invokestatic 47, 3) := by decide +kernel
theorem dX0_takeOver_83 : decode cX0_takeOver 83 = .ok (.aload_n 1, 1) := by decide +kernel
theorem dX0_takeOver_84 : decode cX0_takeOver 84 = .ok (.getfield 27, 3) := by decide +kernel
theorem dX0_takeOver_87 : decode cX0_takeOver 87 = .ok (.iconst 0, 1) := by decide +kernel
theorem dX0_takeOver_88 : decode cX0_takeOver 88 = .ok (.aload_n 0, 1) := by decide +kernel
theorem dX0_takeOver_89 : decode cX0_takeOver 89 = .ok (.getfield 27, 3) := by decide +kernel
theorem dX0_takeOver_92 : decode cX0_takeOver 92 = .ok (.iconst 0, 1) := by decide +kernel
theorem dX0_takeOver_93 : decode cX0_takeOver 93 = .ok (.bipush 6, 2) := by decide +kernel
theorem dX0_takeOver_95 : decode cX0_takeOver 95 = .ok (.invokestatic 47, 3) := by decide +kernel
theorem dX0_takeOver_98 : decode cX0_takeOver 98 = .ok (.aload_n 1, 1) := by decide +kernel
theorem dX0_takeOver_99 : decode cX0_takeOver 99 = .ok (.getfield 30, 3) := by decide +kernel
theorem dX0_takeOver_102 : decode cX0_takeOver 102 = .ok (.iconst 0, 1) := by decide +kernel
theorem dX0_takeOver_103 : decode cX0_takeOver 103 = .ok (.aload_n 0, 1) := by decide +kernel
theorem dX0_takeOver_104 : decode cX0_takeOver 104 = .ok (.getfield 30, 3) := by decide +kernel
theorem dX0_takeOver_107 : decode cX0_takeOver 107 = .ok (.iconst 0, 1) := by decide +kernel
theorem dX0_takeOver_108 : decode cX0_takeOver 108 = .ok (.bipush 6, 2) := by decide +kernel
theorem dX0_takeOver_110 : decode cX0_takeOver 110 = .ok (.invokestatic 47, 3) := by decide +kernel
theorem dX0_takeOver_113 : decode cX0_takeOver 113 = .ok (.aload_n 0, 1) := by decide +kernel
theorem dX0_takeOver_114 : decode cX0_takeOver 114 = .ok (.aload_n 1, 1) := by decide +kernel
theorem dX0_takeOver_115 : decode cX0_takeOver 115 = .ok (.getfield 53, 3) := by decide +kernel
theorem dX0_takeOver_118 : decode cX0_takeOver 118 = .ok (.putfield 53, 3) := by decide +kernel
theorem dX0_takeOver_121 : decode cX0_takeOver 121 = .ok (.aload_n 0, 1) := by decide +kernel
theorem dX0_takeOver_122 : decode cX0_takeOver 122 = .ok (.aload_n 1, 1) := by decide +kernel
theorem dX0_takeOver_123 : decode cX0_takeOver 123 = .ok (.getfield 56, 3) := by decide +kernel
theorem dX0_takeOver_126 : decode cX0_takeOver 126 = .ok (.putfield 56, 3) := by decide +kernel
theorem dX0_takeOver_129 : decode cX0_takeOver 129 = .ok (.aload_n 0, 1) := by decide +kernel
theorem dX0_takeOver_130 : decode cX0_takeOver 130 = .ok (.aload_n 1, 1) := by decide +kernel
theorem dX0_takeOver_131 : decode cX0_takeOver 131 = .ok (.getfield 59, 3) := by decide +kernel
theorem dX0_takeOver_134 : decode cX0_takeOver 134 = .ok (.putfield 59, 3) := by decide +kernel
theorem dX0_takeOver_137 : decode cX0_takeOver 137 = .ok (.aload_n 0, 1) := by decide +kernel
theorem dX0_takeOver_138 : decode cX0_takeOver 138 = .ok (.aload_n 1, 1) := by decide +kernel
theorem dX0_takeOver_139 : decode cX0_takeOver 139 = .ok (.getfield 62, 3) := by decide +kernel
theorem dX0_takeOver_142 : decode cX0_takeOver 142 = .ok (.putfield 62, 3) := by decide +kernel
theorem dX0_takeOver_145 : decode cX0_takeOver 145 = .ok (.aload_n 0, 1) := by decide +kernel
theorem dX0_takeOver_146 : decode cX0_takeOver 146 = .ok (.aload_n 1, 1) := by decide +kernel
theorem dX0_takeOver_147 : decode cX0_takeOver 147 = .ok (.getfield 33, 3) := by decide +kernel
theorem dX0_takeOver_150 : decode cX0_takeOver 150 = .ok (.putfield 33, 3) := by decide +kernel
theorem dX0_takeOver_153 : decode cX0_takeOver 153 = .ok (.aload_n 0, 1) := by decide +kernel
theorem dX0_takeOver_154 : decode cX0_takeOver 154 = .ok (.aload_n 1, 1) := by decide +kernel
theorem dX0_takeOver_155 : decode cX0_takeOver 155 = .ok (.getfield 65, 3) := by decide +kernel
theorem dX0_takeOver_158 : decode cX0_takeOver 158 = .ok (.putfield 65, 3) := by decide +kernel
theorem dX0_takeOver_161 : decode cX0_takeOver 161 = .ok (.aload_n 1, 1) := by decide +kernel
theorem dX0_takeOver_162 : decode cX0_takeOver 162 = .ok (.getfield 37, 3) := by decide +kernel
theorem dX0_takeOver_165 : decode cX0_takeOver 165 = .ok (.iconst 0, 1) := by decide +kernel
theorem dX0_takeOver_166 : decode cX0_takeOver 166 = .ok (.aload_n 0, 1) := by decide +kernel
theorem dX0_takeOver_167 : decode cX0_takeOver 167 = .ok (.getfield 37, 3) := by decide +kernel
theorem dX0_takeOver_170 : decode cX0_takeOver 170 = .ok (.iconst 0, 1) := by decide +kernel
theorem dX0_takeOver_171 : decode cX0_takeOver 171 = .ok (.iconst 3, 1) := by decide +kernel
theorem dX0_takeOver_172 : decode cX0_takeOver 172 = .ok (.invokestatic 47, 3) := by decide +kernel
theorem dX0_takeOver_175 : decode cX0_takeOver 175 = .ok (.return_, 1) := by decide +kernel
theorem dX0_settle_0 : decode cX0_settle 0 = .ok (.aload_n 0, 1) := by decide +kernel
theorem dX0_settle_1 : decode cX0_settle 1 = .ok (.getfield 9, 3) := by decide +kernel
theorem dX0_settle_4 : decode cX0_settle 4 = .ok (.aload_n 0, 1) := by decide +kernel
theorem dX0_settle_5 : decode cX0_settle 5 = .ok (.getfield 44, 3) := by decide +kernel
theorem dX0_settle_8 : decode cX0_settle 8 = .ok (.iload_n 1, 1) := by decide +kernel
theorem dX0_settle_9 : decode cX0_settle 9 = .ok (.iastore, 1) := by decide +kernel
theorem dX0_settle_10 : decode cX0_settle 10 = .ok (.aload_n 0, 1) := by decide +kernel
theorem dX0_settle_11 : decode cX0_settle 11 = .ok (.getfield 15, 3) := by decide +kernel
theorem dX0_settle_14 : decode cX0_settle 14 = .ok (.aload_n 0, 1) := by decide +kernel
theorem dX0_settle_15 : decode cX0_settle 15 = .ok (.getfield 44, 3) := by decide +kernel
theorem dX0_settle_18 : decode cX0_settle 18 = .ok (.iload_n 2, 1) := by decide +kernel
theorem dX0_settle_19 : decode cX0_settle 19 = .ok (.iastore, 1) := by decide +kernel
theorem dX0_settle_20 : decode cX0_settle 20 = .ok (.aload_n 0, 1) := by decide +kernel
theorem dX0_settle_21 : decode cX0_settle 21 = .ok (.getfield 18, 3) := by decide +kernel
theorem dX0_settle_24 : decode cX0_settle 24 = .ok (.aload_n 0, 1) := by decide +kernel
theorem dX0_settle_25 : decode cX0_settle 25 = .ok (.getfield 44, 3) := by decide +kernel
theorem dX0_settle_28 : decode cX0_settle 28 = .ok (.iload_n 3, 1) := by decide +kernel
theorem dX0_settle_29 : decode cX0_settle 29 = .ok (.iastore, 1) := by decide +kernel
theorem dX0_settle_30 : decode cX0_settle 30 = .ok (.aload_n 0, 1) := by decide +kernel
theorem dX0_settle_31 : decode cX0_settle 31 = .ok (.getfield 21, 3) := by decide +kernel
theorem dX0_settle_34 : decode cX0_settle 34 = .ok (.aload_n 0, 1) := by decide +kernel
theorem dX0_settle_35 : decode cX0_settle 35 = .ok (.getfield 44, 3) := by decide +kernel
theorem dX0_settle_38 : decode cX0_settle 38 = .ok (.iconst 0, 1) := by decide +kernel
theorem dX0_settle_39 : decode cX0_settle 39 = .ok (.iastore, 1) := by decide +kernel
theorem dX0_settle_40 : decode cX0_settle 40 = .ok (.iconst 0, 1) := by decide +kernel
theorem dX0_settle_41 : decode cX0_settle 41 = .ok (.istore 4, 2) := by decide +kernel
theorem dX0_settle_43 : decode cX0_settle 43 = .ok (.iload 4, 2) := by decide +kernel
theorem dX0_settle_45 : decode cX0_settle 45 = .ok (.bipush 6, 2) := by decide +kernel
theorem dX0_settle_47 : decode cX0_settle 47 = .ok (.if_icmp .ge 20, 3) := by decide +kernel
theorem dX0_settle_50 : decode cX0_settle 50 = .ok (.aload_n 0, 1) := by decide +kernel
theorem dX0_settle_51 : decode cX0_settle 51 = .ok (.aload_n 0, 1) := by decide +kernel
theorem dX0_settle_52 : decode cX0_settle 52 = .ok (.getfield 44, 3) := by decide +kernel
theorem dX0_settle_55 : decode cX0_settle 55 = .ok (.iload 4, 2) := by decide +kernel
theorem dX0_settle_57 : decode cX0_settle 57 = .ok (.iconst 0, 1) := by decide +kernel
theorem dX0_settle_58 : decode cX0_settle 58 = .ok (.invokevirtual 68, 3) := by decide +kernel
theorem dX0_settle_61 : decode cX0_settle 61 = .ok (.iinc 4 1, 3) := by decide +kernel
theorem dX0_settle_64 : decode cX0_settle 64 = .ok (.goto (-21), 3) := by decide +kernel
theorem dX0_settle_67 : decode cX0_settle 67 = .ok (.aload_n 0, 1) := by decide +kernel
theorem dX0_settle_68 : decode cX0_settle 68 = .ok (.dup, 1) := by decide +kernel
theorem dX0_settle_69 : decode cX0_settle 69 = .ok (.getfield 44, 3) := by decide +kernel
theorem dX0_settle_72 : decode cX0_settle 72 = .ok (.iconst 1, 1) := by decide +kernel
theorem dX0_settle_73 : decode cX0_settle 73 = .ok (.iadd, 1) := by decide +kernel
theorem dX0_settle_74 : decode cX0_settle 74 = .ok (.putfield 44, 3) := by decide +kernel
theorem dX0_settle_77 : decode cX0_settle 77 = .ok (.return_, 1) := by decide +kernel
theorem dX0_settleByLot_0 : decode cX0_settleByLot 0 = .ok (.aload_n 0, 1) := by decide +kernel
theorem dX0_settleByLot_1 : decode cX0_settleByLot 1 = .ok (.invokevirtual 72, 3) := by decide +kernel
theorem dX0_settleByLot_4 : decode cX0_settleByLot 4 = .ok (.bipush 6, 2) := by decide +kernel
theorem dX0_settleByLot_6 : decode cX0_settleByLot 6 = .ok (.irem, 1) := by decide +kernel
theorem dX0_settleByLot_7 : decode cX0_settleByLot 7 = .ok (.istore_n 1, 1) := by decide +kernel
theorem dX0_settleByLot_8 : decode cX0_settleByLot 8 = .ok (.aload_n 0, 1) := by decide +kernel
theorem dX0_settleByLot_9 : decode cX0_settleByLot 9 = .ok (.invokevirtual 72, 3) := by decide +kernel
theorem dX0_settleByLot_12 : decode cX0_settleByLot 12 = .ok (.bipush 8, 2) := by decide +kernel
theorem dX0_settleByLot_14 : decode cX0_settleByLot 14 = .ok (.irem, 1) := by decide +kernel
theorem dX0_settleByLot_15 : decode cX0_settleByLot 15 = .ok (.istore_n 2, 1) := by decide +kernel
theorem dX0_settleByLot_16 : decode cX0_settleByLot 16 = .ok (.aload_n 0, 1) := by decide +kernel
theorem dX0_settleByLot_17 : decode cX0_settleByLot 17 = .ok (.invokevirtual 72, 3) := by decide +kernel
theorem dX0_settleByLot_20 : decode cX0_settleByLot 20 = .ok (.bipush 10, 2) := by decide +kernel
theorem dX0_settleByLot_22 : decode cX0_settleByLot 22 = .ok (.irem, 1) := by decide +kernel
theorem dX0_settleByLot_23 : decode cX0_settleByLot 23 = .ok (.istore_n 3, 1) := by decide +kernel
theorem dX0_settleByLot_24 : decode cX0_settleByLot 24 = .ok (.aload_n 0, 1) := by decide +kernel
theorem dX0_settleByLot_25 : decode cX0_settleByLot 25 = .ok (.iload_n 1, 1) := by decide +kernel
theorem dX0_settleByLot_26 : decode cX0_settleByLot 26 = .ok (.iload_n 2, 1) := by decide +kernel
theorem dX0_settleByLot_27 : decode cX0_settleByLot 27 = .ok (.iload_n 3, 1) := by decide +kernel
theorem dX0_settleByLot_28 : decode cX0_settleByLot 28 = .ok (.invokevirtual 76, 3) := by decide +kernel
theorem dX0_settleByLot_31 : decode cX0_settleByLot 31 = .ok (.return_, 1) := by decide +kernel
theorem dX0_draw_0 : decode cX0_draw 0 = .ok (.aload_n 0, 1) := by decide +kernel
theorem dX0_draw_1 : decode cX0_draw 1 = .ok (.aload_n 0, 1) := by decide +kernel
theorem dX0_draw_2 : decode cX0_draw 2 = .ok (.getfield 33, 3) := by decide +kernel
theorem dX0_draw_5 : decode cX0_draw 5 = .ok (.ldc 79, 2) := by decide +kernel
theorem dX0_draw_7 : decode cX0_draw 7 = .ok (.imul, 1) := by decide +kernel
theorem dX0_draw_8 : decode cX0_draw 8 = .ok (.sipush 12345, 3) := by decide +kernel
theorem dX0_draw_11 : decode cX0_draw 11 = .ok (.iadd, 1) := by decide +kernel
theorem dX0_draw_12 : decode cX0_draw 12 = .ok (.putfield 33, 3) := by decide +kernel
theorem dX0_draw_15 : decode cX0_draw 15 = .ok (.aload_n 0, 1) := by decide +kernel
theorem dX0_draw_16 : decode cX0_draw 16 = .ok (.getfield 33, 3) := by decide +kernel
theorem dX0_draw_19 : decode cX0_draw 19 = .ok (.bipush 8, 2) := by decide +kernel
theorem dX0_draw_21 : decode cX0_draw 21 = .ok (.iushr, 1) := by decide +kernel
theorem dX0_draw_22 : decode cX0_draw 22 = .ok (.ireturn, 1) := by decide +kernel
theorem dX0_thoughtOf_0 : decode cX0_thoughtOf 0 = .ok (.aload_n 0, 1) := by decide +kernel
theorem dX0_thoughtOf_1 : decode cX0_thoughtOf 1 = .ok (.getfield 24, 3) := by decide +kernel
theorem dX0_thoughtOf_4 : decode cX0_thoughtOf 4 = .ok (.iload_n 1, 1) := by decide +kernel
theorem dX0_thoughtOf_5 : decode cX0_thoughtOf 5 = .ok (.bipush 6, 2) := by decide +kernel
theorem dX0_thoughtOf_7 : decode cX0_thoughtOf 7 = .ok (.imul, 1) := by decide +kernel
theorem dX0_thoughtOf_8 : decode cX0_thoughtOf 8 = .ok (.iload_n 2, 1) := by decide +kernel
theorem dX0_thoughtOf_9 : decode cX0_thoughtOf 9 = .ok (.iadd, 1) := by decide +kernel
theorem dX0_thoughtOf_10 : decode cX0_thoughtOf 10 = .ok (.iaload, 1) := by decide +kernel
theorem dX0_thoughtOf_11 : decode cX0_thoughtOf 11 = .ok (.ireturn, 1) := by decide +kernel
theorem dX0_think_0 : decode cX0_think 0 = .ok (.aload_n 0, 1) := by decide +kernel
theorem dX0_think_1 : decode cX0_think 1 = .ok (.getfield 24, 3) := by decide +kernel
theorem dX0_think_4 : decode cX0_think 4 = .ok (.iload_n 1, 1) := by decide +kernel
theorem dX0_think_5 : decode cX0_think 5 = .ok (.bipush 6, 2) := by decide +kernel
theorem dX0_think_7 : decode cX0_think 7 = .ok (.imul, 1) := by decide +kernel
theorem dX0_think_8 : decode cX0_think 8 = .ok (.iload_n 2, 1) := by decide +kernel
theorem dX0_think_9 : decode cX0_think 9 = .ok (.iadd, 1) := by decide +kernel
theorem dX0_think_10 : decode cX0_think 10 = .ok (.iload_n 3, 1) := by decide +kernel
theorem dX0_think_11 : decode cX0_think 11 = .ok (.iastore, 1) := by decide +kernel
theorem dX0_think_12 : decode cX0_think 12 = .ok (.return_, 1) := by decide +kernel
theorem dX0_fieldsThoughtOf_0 : decode cX0_fieldsThoughtOf 0 = .ok (.iconst 0, 1) := by decide +kernel
theorem dX0_fieldsThoughtOf_1 : decode cX0_fieldsThoughtOf 1 = .ok (.istore_n 2, 1) := by decide +kernel
theorem dX0_fieldsThoughtOf_2 : decode cX0_fieldsThoughtOf 2 = .ok (.iconst 0, 1) := by decide +kernel
theorem dX0_fieldsThoughtOf_3 : decode cX0_fieldsThoughtOf 3 = .ok (.istore_n 3, 1) := by decide +kernel
theorem dX0_fieldsThoughtOf_4 : decode cX0_fieldsThoughtOf 4 = .ok (.iload_n 3, 1) := by decide +kernel
theorem dX0_fieldsThoughtOf_5 : decode cX0_fieldsThoughtOf 5 = .ok (.bipush 6, 2) := by decide +kernel
theorem dX0_fieldsThoughtOf_7 : decode cX0_fieldsThoughtOf 7 = .ok (.if_icmp .ge 24, 3) := by decide +kernel
theorem dX0_fieldsThoughtOf_10 : decode cX0_fieldsThoughtOf 10 = .ok (.aload_n 0, 1) := by decide +kernel
theorem dX0_fieldsThoughtOf_11 : decode cX0_fieldsThoughtOf 11 = .ok (.iload_n 1, 1) := by decide +kernel
theorem dX0_fieldsThoughtOf_12 : decode cX0_fieldsThoughtOf 12 = .ok (.iload_n 3, 1) := by decide +kernel
theorem dX0_fieldsThoughtOf_13 : decode cX0_fieldsThoughtOf 13 = .ok (.invokevirtual 80, 3) := by decide +kernel
theorem dX0_fieldsThoughtOf_16 : decode cX0_fieldsThoughtOf 16 = .ok (.ifCond .eq 9, 3) := by decide +kernel
theorem dX0_fieldsThoughtOf_19 : decode cX0_fieldsThoughtOf 19 = .ok (.iload_n 2, 1) := by decide +kernel
theorem dX0_fieldsThoughtOf_20 : decode cX0_fieldsThoughtOf 20 = .ok (.iconst 1, 1) := by decide +kernel
theorem dX0_fieldsThoughtOf_21 : decode cX0_fieldsThoughtOf 21 = .ok (.iload_n 3, 1) := by decide +kernel
theorem dX0_fieldsThoughtOf_22 : decode cX0_fieldsThoughtOf 22 = .ok (.ishl, 1) := by decide +kernel
theorem dX0_fieldsThoughtOf_23 : decode cX0_fieldsThoughtOf 23 = .ok (.ior, 1) := by decide +kernel
theorem dX0_fieldsThoughtOf_24 : decode cX0_fieldsThoughtOf 24 = .ok (.istore_n 2, 1) := by decide +kernel
theorem dX0_fieldsThoughtOf_25 : decode cX0_fieldsThoughtOf 25 = .ok (.iinc 3 1, 3) := by decide +kernel
theorem dX0_fieldsThoughtOf_28 : decode cX0_fieldsThoughtOf 28 = .ok (.goto (-24), 3) := by decide +kernel
theorem dX0_fieldsThoughtOf_31 : decode cX0_fieldsThoughtOf 31 = .ok (.iload_n 2, 1) := by decide +kernel
theorem dX0_fieldsThoughtOf_32 : decode cX0_fieldsThoughtOf 32 = .ok (.ireturn, 1) := by decide +kernel
theorem dX0_hears_0 : decode cX0_hears 0 = .ok (.aload_n 0, 1) := by decide +kernel
theorem dX0_hears_1 : decode cX0_hears 1 = .ok (.getfield 15, 3) := by decide +kernel
theorem dX0_hears_4 : decode cX0_hears 4 = .ok (.iload_n 1, 1) := by decide +kernel
theorem dX0_hears_5 : decode cX0_hears 5 = .ok (.iaload, 1) := by decide +kernel
theorem dX0_hears_6 : decode cX0_hears 6 = .ok (.aload_n 0, 1) := by decide +kernel
theorem dX0_hears_7 : decode cX0_hears 7 = .ok (.getfield 15, 3) := by decide +kernel
theorem dX0_hears_10 : decode cX0_hears 10 = .ok (.iload_n 2, 1) := by decide +kernel
theorem dX0_hears_11 : decode cX0_hears 11 = .ok (.iaload, 1) := by decide +kernel
theorem dX0_hears_12 : decode cX0_hears 12 = .ok (.isub, 1) := by decide +kernel
theorem dX0_hears_13 : decode cX0_hears 13 = .ok (.invokestatic 84, 3) := by decide +kernel
theorem dX0_hears_16 : decode cX0_hears 16 = .ok (.istore_n 3, 1) := by decide +kernel
theorem dX0_hears_17 : decode cX0_hears 17 = .ok (.iload_n 1, 1) := by decide +kernel
theorem dX0_hears_18 : decode cX0_hears 18 = .ok (.iload_n 2, 1) := by decide +kernel
theorem dX0_hears_19 : decode cX0_hears 19 = .ok (.if_icmp .eq 18, 3) := by decide +kernel
theorem dX0_hears_22 : decode cX0_hears 22 = .ok (.iload_n 3, 1) := by decide +kernel
theorem dX0_hears_23 : decode cX0_hears 23 = .ok (.iconst 1, 1) := by decide +kernel
theorem dX0_hears_24 : decode cX0_hears 24 = .ok (.if_icmp .le 9, 3) := by decide +kernel
theorem dX0_hears_27 : decode cX0_hears 27 = .ok (.iload_n 3, 1) := by decide +kernel
theorem dX0_hears_28 : decode cX0_hears 28 = .ok (.bipush 7, 2) := by decide +kernel
theorem dX0_hears_30 : decode cX0_hears 30 = .ok (.if_icmp .ne 7, 3) := by decide +kernel
theorem dX0_hears_33 : decode cX0_hears 33 = .ok (.iconst 1, 1) := by decide +kernel
theorem dX0_hears_34 : decode cX0_hears 34 = .ok (.goto 4, 3) := by decide +kernel
theorem dX0_hears_37 : decode cX0_hears 37 = .ok (.iconst 0, 1) := by decide +kernel
theorem dX0_hears_38 : decode cX0_hears 38 = .ok (.ireturn, 1) := by decide +kernel
theorem dX0_hearersOf_0 : decode cX0_hearersOf 0 = .ok (.iconst 0, 1) := by decide +kernel
theorem dX0_hearersOf_1 : decode cX0_hearersOf 1 = .ok (.istore_n 2, 1) := by decide +kernel
theorem dX0_hearersOf_2 : decode cX0_hearersOf 2 = .ok (.iconst 0, 1) := by decide +kernel
theorem dX0_hearersOf_3 : decode cX0_hearersOf 3 = .ok (.istore_n 3, 1) := by decide +kernel
theorem dX0_hearersOf_4 : decode cX0_hearersOf 4 = .ok (.iload_n 3, 1) := by decide +kernel
theorem dX0_hearersOf_5 : decode cX0_hearersOf 5 = .ok (.aload_n 0, 1) := by decide +kernel
theorem dX0_hearersOf_6 : decode cX0_hearersOf 6 = .ok (.getfield 44, 3) := by decide +kernel
theorem dX0_hearersOf_9 : decode cX0_hearersOf 9 = .ok (.if_icmp .ge 24, 3) := by decide +kernel
theorem dX0_hearersOf_12 : decode cX0_hearersOf 12 = .ok (.aload_n 0, 1) := by decide +kernel
theorem dX0_hearersOf_13 : decode cX0_hearersOf 13 = .ok (.iload_n 3, 1) := by decide +kernel
theorem dX0_hearersOf_14 : decode cX0_hearersOf 14 = .ok (.iload_n 1, 1) := by decide +kernel
theorem dX0_hearersOf_15 : decode cX0_hearersOf 15 = .ok (.invokevirtual 90, 3) := by decide +kernel
theorem dX0_hearersOf_18 : decode cX0_hearersOf 18 = .ok (.ifCond .eq 9, 3) := by decide +kernel
theorem dX0_hearersOf_21 : decode cX0_hearersOf 21 = .ok (.iload_n 2, 1) := by decide +kernel
theorem dX0_hearersOf_22 : decode cX0_hearersOf 22 = .ok (.iconst 1, 1) := by decide +kernel
theorem dX0_hearersOf_23 : decode cX0_hearersOf 23 = .ok (.iload_n 3, 1) := by decide +kernel
theorem dX0_hearersOf_24 : decode cX0_hearersOf 24 = .ok (.ishl, 1) := by decide +kernel
theorem dX0_hearersOf_25 : decode cX0_hearersOf 25 = .ok (.ior, 1) := by decide +kernel
theorem dX0_hearersOf_26 : decode cX0_hearersOf 26 = .ok (.istore_n 2, 1) := by decide +kernel
theorem dX0_hearersOf_27 : decode cX0_hearersOf 27 = .ok (.iinc 3 1, 3) := by decide +kernel
theorem dX0_hearersOf_30 : decode cX0_hearersOf 30 = .ok (.goto (-26), 3) := by decide +kernel
theorem dX0_hearersOf_33 : decode cX0_hearersOf 33 = .ok (.iload_n 2, 1) := by decide +kernel
theorem dX0_hearersOf_34 : decode cX0_hearersOf 34 = .ok (.ireturn, 1) := by decide +kernel
theorem dX0_believersOf_0 : decode cX0_believersOf 0 = .ok (.iconst 0, 1) := by decide +kernel
theorem dX0_believersOf_1 : decode cX0_believersOf 1 = .ok (.istore_n 3, 1) := by decide +kernel
theorem dX0_believersOf_2 : decode cX0_believersOf 2 = .ok (.iconst 0, 1) := by decide +kernel
theorem dX0_believersOf_3 : decode cX0_believersOf 3 = .ok (.istore 4, 2) := by decide +kernel
theorem dX0_believersOf_5 : decode cX0_believersOf 5 = .ok (.iload 4, 2) := by decide +kernel
theorem dX0_believersOf_7 : decode cX0_believersOf 7 = .ok (.aload_n 0, 1) := by decide +kernel
theorem dX0_believersOf_8 : decode cX0_believersOf 8 = .ok (.getfield 44, 3) := by decide +kernel
theorem dX0_believersOf_11 : decode cX0_believersOf 11 = .ok (.if_icmp .ge 31, 3) := by decide +kernel
theorem dX0_believersOf_14 : decode cX0_believersOf 14 = .ok (.iload_n 2, 1) := by decide +kernel
theorem dX0_believersOf_15 : decode cX0_believersOf 15 = .ok (.ifCond .eq 21, 3) := by decide +kernel
theorem dX0_believersOf_18 : decode cX0_believersOf 18 = .ok (.aload_n 0, 1) := by decide +kernel
theorem dX0_believersOf_19 : decode cX0_believersOf 19 = .ok (.iload 4, 2) := by decide +kernel
theorem dX0_believersOf_21 : decode cX0_believersOf 21 = .ok (.iload_n 1, 1) := by decide +kernel
theorem dX0_believersOf_22 : decode cX0_believersOf 22 = .ok (.invokevirtual 80, 3) := by decide +kernel
theorem dX0_believersOf_25 : decode cX0_believersOf 25 = .ok (.iload_n 2, 1) := by decide +kernel
theorem dX0_believersOf_26 : decode cX0_believersOf 26 = .ok (.if_icmp .ne 10, 3) := by decide +kernel
theorem dX0_believersOf_29 : decode cX0_believersOf 29 = .ok (.iload_n 3, 1) := by decide +kernel
theorem dX0_believersOf_30 : decode cX0_believersOf 30 = .ok (.iconst 1, 1) := by decide +kernel
theorem dX0_believersOf_31 : decode cX0_believersOf 31 = .ok (.iload 4, 2) := by decide +kernel
theorem dX0_believersOf_33 : decode cX0_believersOf 33 = .ok (.ishl, 1) := by decide +kernel
theorem dX0_believersOf_34 : decode cX0_believersOf 34 = .ok (.ior, 1) := by decide +kernel
theorem dX0_believersOf_35 : decode cX0_believersOf 35 = .ok (.istore_n 3, 1) := by decide +kernel
theorem dX0_believersOf_36 : decode cX0_believersOf 36 = .ok (.iinc 4 1, 3) := by decide +kernel
theorem dX0_believersOf_39 : decode cX0_believersOf 39 = .ok (.goto (-34), 3) := by decide +kernel
theorem dX0_believersOf_42 : decode cX0_believersOf 42 = .ok (.iload_n 3, 1) := by decide +kernel
theorem dX0_believersOf_43 : decode cX0_believersOf 43 = .ok (.ireturn, 1) := by decide +kernel
theorem dX0_votesFor_0 : decode cX0_votesFor 0 = .ok (.iconst 0, 1) := by decide +kernel
theorem dX0_votesFor_1 : decode cX0_votesFor 1 = .ok (.istore_n 3, 1) := by decide +kernel
theorem dX0_votesFor_2 : decode cX0_votesFor 2 = .ok (.iconst 0, 1) := by decide +kernel
theorem dX0_votesFor_3 : decode cX0_votesFor 3 = .ok (.istore 4, 2) := by decide +kernel
theorem dX0_votesFor_5 : decode cX0_votesFor 5 = .ok (.iload 4, 2) := by decide +kernel
theorem dX0_votesFor_7 : decode cX0_votesFor 7 = .ok (.aload_n 0, 1) := by decide +kernel
theorem dX0_votesFor_8 : decode cX0_votesFor 8 = .ok (.getfield 44, 3) := by decide +kernel
theorem dX0_votesFor_11 : decode cX0_votesFor 11 = .ok (.if_icmp .ge 38, 3) := by decide +kernel
theorem dX0_votesFor_14 : decode cX0_votesFor 14 = .ok (.iload_n 2, 1) := by decide +kernel
theorem dX0_votesFor_15 : decode cX0_votesFor 15 = .ok (.ifCond .eq 28, 3) := by decide +kernel
theorem dX0_votesFor_18 : decode cX0_votesFor 18 = .ok (.aload_n 0, 1) := by decide +kernel
theorem dX0_votesFor_19 : decode cX0_votesFor 19 = .ok (.iload 4, 2) := by decide +kernel
theorem dX0_votesFor_21 : decode cX0_votesFor 21 = .ok (.iload_n 1, 1) := by decide +kernel
theorem dX0_votesFor_22 : decode cX0_votesFor 22 = .ok (.invokevirtual 80, 3) := by decide +kernel
theorem dX0_votesFor_25 : decode cX0_votesFor 25 = .ok (.iload_n 2, 1) := by decide +kernel
theorem dX0_votesFor_26 : decode cX0_votesFor 26 = .ok (.if_icmp .ne 17, 3) := by decide +kernel
theorem dX0_votesFor_29 : decode cX0_votesFor 29 = .ok (.iload_n 3, 1) := by decide +kernel
theorem dX0_votesFor_30 : decode cX0_votesFor 30 = .ok (.getstatic 94, 3) := by decide +kernel
theorem dX0_votesFor_33 : decode cX0_votesFor 33 = .ok (.aload_n 0, 1) := by decide +kernel
theorem dX0_votesFor_34 : decode cX0_votesFor 34 = .ok (.getfield 9, 3) := by decide +kernel
theorem dX0_votesFor_37 : decode cX0_votesFor 37 = .ok (.iload 4, 2) := by decide +kernel
theorem dX0_votesFor_39 : decode cX0_votesFor 39 = .ok (.iaload, 1) := by decide +kernel
theorem dX0_votesFor_40 : decode cX0_votesFor 40 = .ok (.iaload, 1) := by decide +kernel
theorem dX0_votesFor_41 : decode cX0_votesFor 41 = .ok (.iadd, 1) := by decide +kernel
theorem dX0_votesFor_42 : decode cX0_votesFor 42 = .ok (.istore_n 3, 1) := by decide +kernel
theorem dX0_votesFor_43 : decode cX0_votesFor 43 = .ok (.iinc 4 1, 3) := by decide +kernel
theorem dX0_votesFor_46 : decode cX0_votesFor 46 = .ok (.goto (-41), 3) := by decide +kernel
theorem dX0_votesFor_49 : decode cX0_votesFor 49 = .ok (.iload_n 3, 1) := by decide +kernel
theorem dX0_votesFor_50 : decode cX0_votesFor 50 = .ok (.ireturn, 1) := by decide +kernel
theorem dX0_firstCrop_0 : decode cX0_firstCrop 0 = .ok (.iconst 0, 1) := by decide +kernel
theorem dX0_firstCrop_1 : decode cX0_firstCrop 1 = .ok (.istore_n 2, 1) := by decide +kernel
theorem dX0_firstCrop_2 : decode cX0_firstCrop 2 = .ok (.iconst 0, 1) := by decide +kernel
theorem dX0_firstCrop_3 : decode cX0_firstCrop 3 = .ok (.istore_n 3, 1) := by decide +kernel
theorem dX0_firstCrop_4 : decode cX0_firstCrop 4 = .ok (.iconst 1, 1) := by decide +kernel
theorem dX0_firstCrop_5 : decode cX0_firstCrop 5 = .ok (.istore 4, 2) := by decide +kernel
theorem dX0_firstCrop_7 : decode cX0_firstCrop 7 = .ok (.iload 4, 2) := by decide +kernel
theorem dX0_firstCrop_9 : decode cX0_firstCrop 9 = .ok (.bipush 9, 2) := by decide +kernel
theorem dX0_firstCrop_11 : decode cX0_firstCrop 11 = .ok (.if_icmp .gt 30, 3) := by decide +kernel
theorem dX0_firstCrop_14 : decode cX0_firstCrop 14 = .ok (.aload_n 0, 1) := by decide +kernel
theorem dX0_firstCrop_15 : decode cX0_firstCrop 15 = .ok (.iload_n 1, 1) := by decide +kernel
theorem dX0_firstCrop_16 : decode cX0_firstCrop 16 = .ok (.iload 4, 2) := by decide +kernel
theorem dX0_firstCrop_18 : decode cX0_firstCrop 18 = .ok (.invokevirtual 97, 3) := by decide +kernel
theorem dX0_firstCrop_21 : decode cX0_firstCrop 21 = .ok (.istore 5, 2) := by decide +kernel
theorem dX0_firstCrop_23 : decode cX0_firstCrop 23 = .ok (.iload 5, 2) := by decide +kernel
theorem dX0_firstCrop_25 : decode cX0_firstCrop 25 = .ok (.iload_n 3, 1) := by decide +kernel
theorem dX0_firstCrop_26 : decode cX0_firstCrop 26 = .ok (.if_icmp .le 9, 3) := by decide +kernel
theorem dX0_firstCrop_29 : decode cX0_firstCrop 29 = .ok (.iload 4, 2) := by decide +kernel
theorem dX0_firstCrop_31 : decode cX0_firstCrop 31 = .ok (.istore_n 2, 1) := by decide +kernel
theorem dX0_firstCrop_32 : decode cX0_firstCrop 32 = .ok (.iload 5, 2) := by decide +kernel
theorem dX0_firstCrop_34 : decode cX0_firstCrop 34 = .ok (.istore_n 3, 1) := by decide +kernel
theorem dX0_firstCrop_35 : decode cX0_firstCrop 35 = .ok (.iinc 4 1, 3) := by decide +kernel
theorem dX0_firstCrop_38 : decode cX0_firstCrop 38 = .ok (.goto (-31), 3) := by decide +kernel
theorem dX0_firstCrop_41 : decode cX0_firstCrop 41 = .ok (.iload_n 2, 1) := by decide +kernel
theorem dX0_firstCrop_42 : decode cX0_firstCrop 42 = .ok (.ireturn, 1) := by decide +kernel
theorem dX0_agreed_0 : decode cX0_agreed 0 = .ok (.iconst 0, 1) := by decide +kernel
theorem dX0_agreed_1 : decode cX0_agreed 1 = .ok (.istore_n 1, 1) := by decide +kernel
theorem dX0_agreed_2 : decode cX0_agreed 2 = .ok (.iconst 0, 1) := by decide +kernel
theorem dX0_agreed_3 : decode cX0_agreed 3 = .ok (.istore_n 2, 1) := by decide +kernel
theorem dX0_agreed_4 : decode cX0_agreed 4 = .ok (.iload_n 2, 1) := by decide +kernel
theorem dX0_agreed_5 : decode cX0_agreed 5 = .ok (.bipush 6, 2) := by decide +kernel
theorem dX0_agreed_7 : decode cX0_agreed 7 = .ok (.if_icmp .ge 87, 3) := by decide +kernel
theorem dX0_agreed_10 : decode cX0_agreed 10 = .ok (.aload_n 0, 1) := by decide +kernel
theorem dX0_agreed_11 : decode cX0_agreed 11 = .ok (.iload_n 2, 1) := by decide +kernel
theorem dX0_agreed_12 : decode cX0_agreed 12 = .ok (.invokevirtual 100, 3) := by decide +kernel
theorem dX0_agreed_15 : decode cX0_agreed 15 = .ok (.istore_n 3, 1) := by decide +kernel
theorem dX0_agreed_16 : decode cX0_agreed 16 = .ok (.iload_n 3, 1) := by decide +kernel
theorem dX0_agreed_17 : decode cX0_agreed 17 = .ok (.ifCond .eq 7, 3) := by decide +kernel
theorem dX0_agreed_20 : decode cX0_agreed 20 = .ok (.iconst 1, 1) := by decide +kernel
theorem dX0_agreed_21 : decode cX0_agreed 21 = .ok (.goto 4, 3) := by decide +kernel
theorem dX0_agreed_24 : decode cX0_agreed 24 = .ok (.iconst 0, 1) := by decide +kernel
theorem dX0_agreed_25 : decode cX0_agreed 25 = .ok (.istore 4, 2) := by decide +kernel
theorem dX0_agreed_27 : decode cX0_agreed 27 = .ok (.iconst 0, 1) := by decide +kernel
theorem dX0_agreed_28 : decode cX0_agreed 28 = .ok (.istore 5, 2) := by decide +kernel
theorem dX0_agreed_30 : decode cX0_agreed 30 = .ok (.iload 5, 2) := by decide +kernel
theorem dX0_agreed_32 : decode cX0_agreed 32 = .ok (.aload_n 0, 1) := by decide +kernel
theorem dX0_agreed_33 : decode cX0_agreed 33 = .ok (.getfield 44, 3) := by decide +kernel
theorem dX0_agreed_36 : decode cX0_agreed 36 = .ok (.if_icmp .ge 41, 3) := by decide +kernel
theorem dX0_agreed_39 : decode cX0_agreed 39 = .ok (.aload_n 0, 1) := by decide +kernel
theorem dX0_agreed_40 : decode cX0_agreed 40 = .ok (.iload 5, 2) := by decide +kernel
theorem dX0_agreed_42 : decode cX0_agreed 42 = .ok (.iload_n 2, 1) := by decide +kernel
theorem dX0_agreed_43 : decode cX0_agreed 43 = .ok (.invokevirtual 80, 3) := by decide +kernel
theorem dX0_agreed_46 : decode cX0_agreed 46 = .ok (.istore 6, 2) := by decide +kernel
theorem dX0_agreed_48 : decode cX0_agreed 48 = .ok (.iload 4, 2) := by decide +kernel
theorem dX0_agreed_50 : decode cX0_agreed 50 = .ok (.ifCond .eq 18, 3) := by decide +kernel
theorem dX0_agreed_53 : decode cX0_agreed 53 = .ok (.iload 6, 2) := by decide +kernel
theorem dX0_agreed_55 : decode cX0_agreed 55 = .ok (.ifCond .eq 9, 3) := by decide +kernel
theorem dX0_agreed_58 : decode cX0_agreed 58 = .ok (.iload 6, 2) := by decide +kernel
theorem dX0_agreed_60 : decode cX0_agreed 60 = .ok (.iload_n 3, 1) := by decide +kernel
theorem dX0_agreed_61 : decode cX0_agreed 61 = .ok (.if_icmp .ne 7, 3) := by decide +kernel
theorem dX0_agreed_64 : decode cX0_agreed 64 = .ok (.iconst 1, 1) := by decide +kernel
theorem dX0_agreed_65 : decode cX0_agreed 65 = .ok (.goto 4, 3) := by decide +kernel
theorem dX0_agreed_68 : decode cX0_agreed 68 = .ok (.iconst 0, 1) := by decide +kernel
theorem dX0_agreed_69 : decode cX0_agreed 69 = .ok (.istore 4, 2) := by decide +kernel
theorem dX0_agreed_71 : decode cX0_agreed 71 = .ok (.iinc 5 1, 3) := by decide +kernel
theorem dX0_agreed_74 : decode cX0_agreed 74 = .ok (.goto (-44), 3) := by decide +kernel
theorem dX0_agreed_77 : decode cX0_agreed 77 = .ok (.iload 4, 2) := by decide +kernel
theorem dX0_agreed_79 : decode cX0_agreed 79 = .ok (.ifCond .eq 9, 3) := by decide +kernel
theorem dX0_agreed_82 : decode cX0_agreed 82 = .ok (.iload_n 1, 1) := by decide +kernel
theorem dX0_agreed_83 : decode cX0_agreed 83 = .ok (.iconst 1, 1) := by decide +kernel
theorem dX0_agreed_84 : decode cX0_agreed 84 = .ok (.iload_n 2, 1) := by decide +kernel
theorem dX0_agreed_85 : decode cX0_agreed 85 = .ok (.ishl, 1) := by decide +kernel
theorem dX0_agreed_86 : decode cX0_agreed 86 = .ok (.ior, 1) := by decide +kernel
theorem dX0_agreed_87 : decode cX0_agreed 87 = .ok (.istore_n 1, 1) := by decide +kernel
theorem dX0_agreed_88 : decode cX0_agreed 88 = .ok (.iinc 2 1, 3) := by decide +kernel
theorem dX0_agreed_91 : decode cX0_agreed 91 = .ok (.goto (-87), 3) := by decide +kernel
theorem dX0_agreed_94 : decode cX0_agreed 94 = .ok (.iload_n 1, 1) := by decide +kernel
theorem dX0_agreed_95 : decode cX0_agreed 95 = .ok (.ireturn, 1) := by decide +kernel
theorem dX0_sureOfAll_0 : decode cX0_sureOfAll 0 = .ok (.iconst 0, 1) := by decide +kernel
theorem dX0_sureOfAll_1 : decode cX0_sureOfAll 1 = .ok (.istore_n 1, 1) := by decide +kernel
theorem dX0_sureOfAll_2 : decode cX0_sureOfAll 2 = .ok (.iconst 0, 1) := by decide +kernel
theorem dX0_sureOfAll_3 : decode cX0_sureOfAll 3 = .ok (.istore_n 2, 1) := by decide +kernel
theorem dX0_sureOfAll_4 : decode cX0_sureOfAll 4 = .ok (.iload_n 2, 1) := by decide +kernel
theorem dX0_sureOfAll_5 : decode cX0_sureOfAll 5 = .ok (.aload_n 0, 1) := by decide +kernel
theorem dX0_sureOfAll_6 : decode cX0_sureOfAll 6 = .ok (.getfield 44, 3) := by decide +kernel
theorem dX0_sureOfAll_9 : decode cX0_sureOfAll 9 = .ok (.if_icmp .ge 18, 3) := by decide +kernel
theorem dX0_sureOfAll_12 : decode cX0_sureOfAll 12 = .ok (.iload_n 1, 1) := by decide +kernel
theorem dX0_sureOfAll_13 : decode cX0_sureOfAll 13 = .ok (.aload_n 0, 1) := by decide +kernel
theorem dX0_sureOfAll_14 : decode cX0_sureOfAll 14 = .ok (.getfield 21, 3) := by decide +kernel
theorem dX0_sureOfAll_17 : decode cX0_sureOfAll 17 = .ok (.iload_n 2, 1) := by decide +kernel
theorem dX0_sureOfAll_18 : decode cX0_sureOfAll 18 = .ok (.iaload, 1) := by decide +kernel
theorem dX0_sureOfAll_19 : decode cX0_sureOfAll 19 = .ok (.iadd, 1) := by decide +kernel
theorem dX0_sureOfAll_20 : decode cX0_sureOfAll 20 = .ok (.istore_n 1, 1) := by decide +kernel
theorem dX0_sureOfAll_21 : decode cX0_sureOfAll 21 = .ok (.iinc 2 1, 3) := by decide +kernel
theorem dX0_sureOfAll_24 : decode cX0_sureOfAll 24 = .ok (.goto (-20), 3) := by decide +kernel
theorem dX0_sureOfAll_27 : decode cX0_sureOfAll 27 = .ok (.iload_n 1, 1) := by decide +kernel
theorem dX0_sureOfAll_28 : decode cX0_sureOfAll 28 = .ok (.ireturn, 1) := by decide +kernel
theorem dX0_wordOf_0 : decode cX0_wordOf 0 = .ok (.aload_n 0, 1) := by decide +kernel
theorem dX0_wordOf_1 : decode cX0_wordOf 1 = .ok (.iload_n 1, 1) := by decide +kernel
theorem dX0_wordOf_2 : decode cX0_wordOf 2 = .ok (.iload_n 2, 1) := by decide +kernel
theorem dX0_wordOf_3 : decode cX0_wordOf 3 = .ok (.invokevirtual 80, 3) := by decide +kernel
theorem dX0_wordOf_6 : decode cX0_wordOf 6 = .ok (.istore_n 3, 1) := by decide +kernel
theorem dX0_wordOf_7 : decode cX0_wordOf 7 = .ok (.aload_n 0, 1) := by decide +kernel
theorem dX0_wordOf_8 : decode cX0_wordOf 8 = .ok (.getfield 9, 3) := by decide +kernel
theorem dX0_wordOf_11 : decode cX0_wordOf 11 = .ok (.iload_n 1, 1) := by decide +kernel
theorem dX0_wordOf_12 : decode cX0_wordOf 12 = .ok (.iaload, 1) := by decide +kernel
theorem dX0_wordOf_13 : decode cX0_wordOf 13 = .ok (.tableswitch 72 1 5 #[35, 56, 40, 63, 69], 35) := by decide +kernel
theorem dX0_wordOf_48 : decode cX0_wordOf 48 = .ok (.iload_n 3, 1) := by decide +kernel
theorem dX0_wordOf_49 : decode cX0_wordOf 49 = .ok (.invokestatic 103, 3) := by decide +kernel
theorem dX0_wordOf_52 : decode cX0_wordOf 52 = .ok (.ireturn, 1) := by decide +kernel
theorem dX0_wordOf_53 : decode cX0_wordOf 53 = .ok (.iload_n 3, 1) := by decide +kernel
theorem dX0_wordOf_54 : decode cX0_wordOf 54 = .ok (.ifCond .ne 7, 3) := by decide +kernel
theorem dX0_wordOf_57 : decode cX0_wordOf 57 = .ok (.iconst 0, 1) := by decide +kernel
theorem dX0_wordOf_58 : decode cX0_wordOf 58 = .ok (.goto 10, 3) := by decide +kernel
theorem dX0_wordOf_61 : decode cX0_wordOf 61 = .ok (.bipush 10, 2) := by decide +kernel
theorem dX0_wordOf_63 : decode cX0_wordOf 63 = .ok (.iload_n 3, 1) := by decide +kernel
theorem dX0_wordOf_64 : decode cX0_wordOf 64 = .ok (.invokestatic 103, 3) := by decide +kernel
theorem dX0_wordOf_67 : decode cX0_wordOf 67 = .ok (.isub, 1) := by decide +kernel
theorem dX0_wordOf_68 : decode cX0_wordOf 68 = .ok (.ireturn, 1) := by decide +kernel
theorem dX0_wordOf_69 : decode cX0_wordOf 69 = .ok (.aload_n 0, 1) := by decide +kernel
theorem dX0_wordOf_70 : decode cX0_wordOf 70 = .ok (.getfield 27, 3) := by decide +kernel
theorem dX0_wordOf_73 : decode cX0_wordOf 73 = .ok (.iload_n 2, 1) := by decide +kernel
theorem dX0_wordOf_74 : decode cX0_wordOf 74 = .ok (.iaload, 1) := by decide +kernel
theorem dX0_wordOf_75 : decode cX0_wordOf 75 = .ok (.ireturn, 1) := by decide +kernel
theorem dX0_wordOf_76 : decode cX0_wordOf 76 = .ok (.aload_n 0, 1) := by decide +kernel
theorem dX0_wordOf_77 : decode cX0_wordOf 77 = .ok (.iload_n 2, 1) := by decide +kernel
theorem dX0_wordOf_78 : decode cX0_wordOf 78 = .ok (.invokevirtual 106, 3) := by decide +kernel
theorem dX0_wordOf_81 : decode cX0_wordOf 81 = .ok (.ireturn, 1) := by decide +kernel
theorem dX0_wordOf_82 : decode cX0_wordOf 82 = .ok (.bipush 9, 2) := by decide +kernel
theorem dX0_wordOf_84 : decode cX0_wordOf 84 = .ok (.ireturn, 1) := by decide +kernel
theorem dX0_wordOf_85 : decode cX0_wordOf 85 = .ok (.iload_n 3, 1) := by decide +kernel
theorem dX0_wordOf_86 : decode cX0_wordOf 86 = .ok (.ireturn, 1) := by decide +kernel
theorem dX0_oneMore_0 : decode cX0_oneMore 0 = .ok (.iload_n 0, 1) := by decide +kernel
theorem dX0_oneMore_1 : decode cX0_oneMore 1 = .ok (.ifCond .ne 5, 3) := by decide +kernel
theorem dX0_oneMore_4 : decode cX0_oneMore 4 = .ok (.iconst 0, 1) := by decide +kernel
theorem dX0_oneMore_5 : decode cX0_oneMore 5 = .ok (.ireturn, 1) := by decide +kernel
theorem dX0_oneMore_6 : decode cX0_oneMore 6 = .ok (.iload_n 0, 1) := by decide +kernel
theorem dX0_oneMore_7 : decode cX0_oneMore 7 = .ok (.bipush 9, 2) := by decide +kernel
theorem dX0_oneMore_9 : decode cX0_oneMore 9 = .ok (.if_icmp .ne 7, 3) := by decide +kernel
theorem dX0_oneMore_12 : decode cX0_oneMore 12 = .ok (.iconst 1, 1) := by decide +kernel
theorem dX0_oneMore_13 : decode cX0_oneMore 13 = .ok (.goto 6, 3) := by decide +kernel
theorem dX0_oneMore_16 : decode cX0_oneMore 16 = .ok (.iload_n 0, 1) := by decide +kernel
theorem dX0_oneMore_17 : decode cX0_oneMore 17 = .ok (.iconst 1, 1) := by decide +kernel
theorem dX0_oneMore_18 : decode cX0_oneMore 18 = .ok (.iadd, 1) := by decide +kernel
theorem dX0_oneMore_19 : decode cX0_oneMore 19 = .ok (.ireturn, 1) := by decide +kernel
theorem dX0_tradersWord_0 : decode cX0_tradersWord 0 = .ok (.aload_n 0, 1) := by decide +kernel
theorem dX0_tradersWord_1 : decode cX0_tradersWord 1 = .ok (.iload_n 1, 1) := by decide +kernel
theorem dX0_tradersWord_2 : decode cX0_tradersWord 2 = .ok (.invokevirtual 100, 3) := by decide +kernel
theorem dX0_tradersWord_5 : decode cX0_tradersWord 5 = .ok (.istore_n 2, 1) := by decide +kernel
theorem dX0_tradersWord_6 : decode cX0_tradersWord 6 = .ok (.iload_n 2, 1) := by decide +kernel
theorem dX0_tradersWord_7 : decode cX0_tradersWord 7 = .ok (.ifCond .eq 7, 3) := by decide +kernel
theorem dX0_tradersWord_10 : decode cX0_tradersWord 10 = .ok (.iload_n 2, 1) := by decide +kernel
theorem dX0_tradersWord_11 : decode cX0_tradersWord 11 = .ok (.goto 9, 3) := by decide +kernel
theorem dX0_tradersWord_14 : decode cX0_tradersWord 14 = .ok (.aload_n 0, 1) := by decide +kernel
theorem dX0_tradersWord_15 : decode cX0_tradersWord 15 = .ok (.getfield 27, 3) := by decide +kernel
theorem dX0_tradersWord_18 : decode cX0_tradersWord 18 = .ok (.iload_n 1, 1) := by decide +kernel
theorem dX0_tradersWord_19 : decode cX0_tradersWord 19 = .ok (.iaload, 1) := by decide +kernel
theorem dX0_tradersWord_20 : decode cX0_tradersWord 20 = .ok (.ireturn, 1) := by decide +kernel
theorem dX0_heedOf_0 : decode cX0_heedOf 0 = .ok (.aload_n 0, 1) := by decide +kernel
theorem dX0_heedOf_1 : decode cX0_heedOf 1 = .ok (.getfield 9, 3) := by decide +kernel
theorem dX0_heedOf_4 : decode cX0_heedOf 4 = .ok (.iload_n 1, 1) := by decide +kernel
theorem dX0_heedOf_5 : decode cX0_heedOf 5 = .ok (.iaload, 1) := by decide +kernel
theorem dX0_heedOf_6 : decode cX0_heedOf 6 = .ok (.tableswitch 73 1 5 #[34, 56, 44, 58, 70], 34) := by decide +kernel
theorem dX0_heedOf_40 : decode cX0_heedOf 40 = .ok (.aload_n 0, 1) := by decide +kernel
theorem dX0_heedOf_41 : decode cX0_heedOf 41 = .ok (.iload_n 1, 1) := by decide +kernel
theorem dX0_heedOf_42 : decode cX0_heedOf 42 = .ok (.iload_n 2, 1) := by decide +kernel
theorem dX0_heedOf_43 : decode cX0_heedOf 43 = .ok (.iload_n 3, 1) := by decide +kernel
theorem dX0_heedOf_44 : decode cX0_heedOf 44 = .ok (.invokevirtual 109, 3) := by decide +kernel
theorem dX0_heedOf_47 : decode cX0_heedOf 47 = .ok (.iconst 3, 1) := by decide +kernel
theorem dX0_heedOf_48 : decode cX0_heedOf 48 = .ok (.iadd, 1) := by decide +kernel
theorem dX0_heedOf_49 : decode cX0_heedOf 49 = .ok (.ireturn, 1) := by decide +kernel
theorem dX0_heedOf_50 : decode cX0_heedOf 50 = .ok (.aload_n 0, 1) := by decide +kernel
theorem dX0_heedOf_51 : decode cX0_heedOf 51 = .ok (.iload_n 1, 1) := by decide +kernel
theorem dX0_heedOf_52 : decode cX0_heedOf 52 = .ok (.iload_n 2, 1) := by decide +kernel
theorem dX0_heedOf_53 : decode cX0_heedOf 53 = .ok (.iload_n 3, 1) := by decide +kernel
theorem dX0_heedOf_54 : decode cX0_heedOf 54 = .ok (.invokevirtual 109, 3) := by decide +kernel
theorem dX0_heedOf_57 : decode cX0_heedOf 57 = .ok (.iconst 3, 1) := by decide +kernel
theorem dX0_heedOf_58 : decode cX0_heedOf 58 = .ok (.iadd, 1) := by decide +kernel
theorem dX0_heedOf_59 : decode cX0_heedOf 59 = .ok (.iconst 2, 1) := by decide +kernel
theorem dX0_heedOf_60 : decode cX0_heedOf 60 = .ok (.idiv, 1) := by decide +kernel
theorem dX0_heedOf_61 : decode cX0_heedOf 61 = .ok (.ireturn, 1) := by decide +kernel
theorem dX0_heedOf_62 : decode cX0_heedOf 62 = .ok (.iconst 0, 1) := by decide +kernel
theorem dX0_heedOf_63 : decode cX0_heedOf 63 = .ok (.ireturn, 1) := by decide +kernel
theorem dX0_heedOf_64 : decode cX0_heedOf 64 = .ok (.iconst 2, 1) := by decide +kernel
theorem dX0_heedOf_65 : decode cX0_heedOf 65 = .ok (.aload_n 0, 1) := by decide +kernel
theorem dX0_heedOf_66 : decode cX0_heedOf 66 = .ok (.iload_n 2, 1) := by decide +kernel
theorem dX0_heedOf_67 : decode cX0_heedOf 67 = .ok (.iload_n 3, 1) := by decide +kernel
theorem dX0_heedOf_68 : decode cX0_heedOf 68 = .ok (.invokevirtual 113, 3) := by decide +kernel
theorem dX0_heedOf_71 : decode cX0_heedOf 71 = .ok (.invokestatic 116, 3) := by decide +kernel
theorem dX0_heedOf_74 : decode cX0_heedOf 74 = .ok (.imul, 1) := by decide +kernel
theorem dX0_heedOf_75 : decode cX0_heedOf 75 = .ok (.ireturn, 1) := by decide +kernel
theorem dX0_heedOf_76 : decode cX0_heedOf 76 = .ok (.bipush 99, 2) := by decide +kernel
theorem dX0_heedOf_78 : decode cX0_heedOf 78 = .ok (.ireturn, 1) := by decide +kernel
theorem dX0_heedOf_79 : decode cX0_heedOf 79 = .ok (.aload_n 0, 1) := by decide +kernel
theorem dX0_heedOf_80 : decode cX0_heedOf 80 = .ok (.iload_n 1, 1) := by decide +kernel
theorem dX0_heedOf_81 : decode cX0_heedOf 81 = .ok (.iload_n 2, 1) := by decide +kernel
theorem dX0_heedOf_82 : decode cX0_heedOf 82 = .ok (.iload_n 3, 1) := by decide +kernel
theorem dX0_heedOf_83 : decode cX0_heedOf 83 = .ok (.invokevirtual 109, 3) := by decide +kernel
theorem dX0_heedOf_86 : decode cX0_heedOf 86 = .ok (.ireturn, 1) := by decide +kernel
theorem dX0_plainHeed_0 : decode cX0_plainHeed 0 = .ok (.aload_n 0, 1) := by decide +kernel
theorem dX0_plainHeed_1 : decode cX0_plainHeed 1 = .ok (.getfield 37, 3) := by decide +kernel
theorem dX0_plainHeed_4 : decode cX0_plainHeed 4 = .ok (.iconst 0, 1) := by decide +kernel
theorem dX0_plainHeed_5 : decode cX0_plainHeed 5 = .ok (.iaload, 1) := by decide +kernel
theorem dX0_plainHeed_6 : decode cX0_plainHeed 6 = .ok (.istore 4, 2) := by decide +kernel
theorem dX0_plainHeed_8 : decode cX0_plainHeed 8 = .ok (.iload 4, 2) := by decide +kernel
theorem dX0_plainHeed_10 : decode cX0_plainHeed 10 = .ok (.ifCond .ge 10, 3) := by decide +kernel
theorem dX0_plainHeed_13 : decode cX0_plainHeed 13 = .ok (.aload_n 0, 1) := by decide +kernel
theorem dX0_plainHeed_14 : decode cX0_plainHeed 14 = .ok (.getfield 18, 3) := by decide +kernel
theorem dX0_plainHeed_17 : decode cX0_plainHeed 17 = .ok (.iload_n 1, 1) := by decide +kernel
theorem dX0_plainHeed_18 : decode cX0_plainHeed 18 = .ok (.iaload, 1) := by decide +kernel
theorem dX0_plainHeed_19 : decode cX0_plainHeed 19 = .ok (.ireturn, 1) := by decide +kernel
theorem dX0_plainHeed_20 : decode cX0_plainHeed 20 = .ok (.aload_n 0, 1) := by decide +kernel
theorem dX0_plainHeed_21 : decode cX0_plainHeed 21 = .ok (.getfield 40, 3) := by decide +kernel
theorem dX0_plainHeed_24 : decode cX0_plainHeed 24 = .ok (.getfield 121, 3) := by decide +kernel
theorem dX0_plainHeed_27 : decode cX0_plainHeed 27 = .ok (.iconst 0, 1) := by decide +kernel
theorem dX0_plainHeed_28 : decode cX0_plainHeed 28 = .ok (.aload_n 0, 1) := by decide +kernel
theorem dX0_plainHeed_29 : decode cX0_plainHeed 29 = .ok (.getfield 18, 3) := by decide +kernel
theorem dX0_plainHeed_32 : decode cX0_plainHeed 32 = .ok (.iload_n 1, 1) := by decide +kernel
theorem dX0_plainHeed_33 : decode cX0_plainHeed 33 = .ok (.iaload, 1) := by decide +kernel
theorem dX0_plainHeed_34 : decode cX0_plainHeed 34 = .ok (.iastore, 1) := by decide +kernel
theorem dX0_plainHeed_35 : decode cX0_plainHeed 35 = .ok (.aload_n 0, 1) := by decide +kernel
theorem dX0_plainHeed_36 : decode cX0_plainHeed 36 = .ok (.getfield 40, 3) := by decide +kernel
theorem dX0_plainHeed_39 : decode cX0_plainHeed 39 = .ok (.getfield 121, 3) := by decide +kernel
theorem dX0_plainHeed_42 : decode cX0_plainHeed 42 = .ok (.iconst 1, 1) := by decide +kernel
theorem dX0_plainHeed_43 : decode cX0_plainHeed 43 = .ok (.aload_n 0, 1) := by decide +kernel
theorem dX0_plainHeed_44 : decode cX0_plainHeed 44 = .ok (.iload_n 2, 1) := by decide +kernel
theorem dX0_plainHeed_45 : decode cX0_plainHeed 45 = .ok (.iload_n 3, 1) := by decide +kernel
theorem dX0_plainHeed_46 : decode cX0_plainHeed 46 = .ok (.invokevirtual 113, 3) := by decide +kernel
theorem dX0_plainHeed_49 : decode cX0_plainHeed 49 = .ok (.invokestatic 116, 3) := by decide +kernel
theorem dX0_plainHeed_52 : decode cX0_plainHeed 52 = .ok (.iastore, 1) := by decide +kernel
theorem dX0_plainHeed_53 : decode cX0_plainHeed 53 = .ok (.aload_n 0, 1) := by decide +kernel
theorem dX0_plainHeed_54 : decode cX0_plainHeed 54 = .ok (.getfield 40, 3) := by decide +kernel
theorem dX0_plainHeed_57 : decode cX0_plainHeed 57 = .ok (.getfield 121, 3) := by decide +kernel
theorem dX0_plainHeed_60 : decode cX0_plainHeed 60 = .ok (.iconst 2, 1) := by decide +kernel
theorem dX0_plainHeed_61 : decode cX0_plainHeed 61 = .ok (.aload_n 0, 1) := by decide +kernel
theorem dX0_plainHeed_62 : decode cX0_plainHeed 62 = .ok (.getfield 21, 3) := by decide +kernel
theorem dX0_plainHeed_65 : decode cX0_plainHeed 65 = .ok (.iload_n 1, 1) := by decide +kernel
theorem dX0_plainHeed_66 : decode cX0_plainHeed 66 = .ok (.iaload, 1) := by decide +kernel
theorem dX0_plainHeed_67 : decode cX0_plainHeed 67 = .ok (.iastore, 1) := by decide +kernel
theorem dX0_plainHeed_68 : decode cX0_plainHeed 68 = .ok (.aload_n 0, 1) := by decide +kernel
theorem dX0_plainHeed_69 : decode cX0_plainHeed 69 = .ok (.getfield 40, 3) := by decide +kernel
theorem dX0_plainHeed_72 : decode cX0_plainHeed 72 = .ok (.getfield 121, 3) := by decide +kernel
theorem dX0_plainHeed_75 : decode cX0_plainHeed 75 = .ok (.iconst 3, 1) := by decide +kernel
theorem dX0_plainHeed_76 : decode cX0_plainHeed 76 = .ok (.iload_n 3, 1) := by decide +kernel
theorem dX0_plainHeed_77 : decode cX0_plainHeed 77 = .ok (.iastore, 1) := by decide +kernel
theorem dX0_plainHeed_78 : decode cX0_plainHeed 78 = .ok (.aload_n 0, 1) := by decide +kernel
theorem dX0_plainHeed_79 : decode cX0_plainHeed 79 = .ok (.getfield 40, 3) := by decide +kernel
theorem dX0_plainHeed_82 : decode cX0_plainHeed 82 = .ok (.iload 4, 2) := by decide +kernel
theorem dX0_plainHeed_84 : decode cX0_plainHeed 84 = .ok (.invokevirtual 126, 3) := by decide +kernel
theorem dX0_plainHeed_87 : decode cX0_plainHeed 87 = .ok (.iconst 0, 1) := by decide +kernel
theorem dX0_plainHeed_88 : decode cX0_plainHeed 88 = .ok (.bipush 99, 2) := by decide +kernel
theorem dX0_plainHeed_90 : decode cX0_plainHeed 90 = .ok (.invokestatic 129, 3) := by decide +kernel
theorem dX0_plainHeed_93 : decode cX0_plainHeed 93 = .ok (.ireturn, 1) := by decide +kernel
theorem dX0_pass_0 : decode cX0_pass 0 = .ok (.iconst 0, 1) := by decide +kernel
theorem dX0_pass_1 : decode cX0_pass 1 = .ok (.istore_n 2, 1) := by decide +kernel
theorem dX0_pass_2 : decode cX0_pass 2 = .ok (.iload_n 2, 1) := by decide +kernel
theorem dX0_pass_3 : decode cX0_pass 3 = .ok (.iload_n 1, 1) := by decide +kernel
theorem dX0_pass_4 : decode cX0_pass 4 = .ok (.if_icmp .ge 48, 3) := by decide +kernel
theorem dX0_pass_7 : decode cX0_pass 7 = .ok (.iconst 0, 1) := by decide +kernel
theorem dX0_pass_8 : decode cX0_pass 8 = .ok (.istore_n 3, 1) := by decide +kernel
theorem dX0_pass_9 : decode cX0_pass 9 = .ok (.iload_n 3, 1) := by decide +kernel
theorem dX0_pass_10 : decode cX0_pass 10 = .ok (.aload_n 0, 1) := by decide +kernel
theorem dX0_pass_11 : decode cX0_pass 11 = .ok (.getfield 44, 3) := by decide +kernel
theorem dX0_pass_14 : decode cX0_pass 14 = .ok (.if_icmp .ge 14, 3) := by decide +kernel
theorem dX0_pass_17 : decode cX0_pass 17 = .ok (.aload_n 0, 1) := by decide +kernel
theorem dX0_pass_18 : decode cX0_pass 18 = .ok (.iload_n 3, 1) := by decide +kernel
theorem dX0_pass_19 : decode cX0_pass 19 = .ok (.invokevirtual 132, 3) := by decide +kernel
theorem dX0_pass_22 : decode cX0_pass 22 = .ok (.iinc 3 1, 3) := by decide +kernel
theorem dX0_pass_25 : decode cX0_pass 25 = .ok (.goto (-16), 3) := by decide +kernel
theorem dX0_pass_28 : decode cX0_pass 28 = .ok (.aload_n 0, 1) := by decide +kernel
theorem dX0_pass_29 : decode cX0_pass 29 = .ok (.invokevirtual 136, 3) := by decide +kernel
theorem dX0_pass_32 : decode cX0_pass 32 = .ok (.aload_n 0, 1) := by decide +kernel
theorem dX0_pass_33 : decode cX0_pass 33 = .ok (.invokevirtual 139, 3) := by decide +kernel
theorem dX0_pass_36 : decode cX0_pass 36 = .ok (.aload_n 0, 1) := by decide +kernel
theorem dX0_pass_37 : decode cX0_pass 37 = .ok (.dup, 1) := by decide +kernel
theorem dX0_pass_38 : decode cX0_pass 38 = .ok (.getfield 62, 3) := by decide +kernel
theorem dX0_pass_41 : decode cX0_pass 41 = .ok (.iconst 1, 1) := by decide +kernel
theorem dX0_pass_42 : decode cX0_pass 42 = .ok (.iadd, 1) := by decide +kernel
theorem dX0_pass_43 : decode cX0_pass 43 = .ok (.putfield 62, 3) := by decide +kernel
theorem dX0_pass_46 : decode cX0_pass 46 = .ok (.iinc 2 1, 3) := by decide +kernel
theorem dX0_pass_49 : decode cX0_pass 49 = .ok (.goto (-47), 3) := by decide +kernel
theorem dX0_pass_52 : decode cX0_pass 52 = .ok (.return_, 1) := by decide +kernel
theorem dX0_speak_0 : decode cX0_speak 0 = .ok (.aload_n 0, 1) := by decide +kernel
theorem dX0_speak_1 : decode cX0_speak 1 = .ok (.getfield 62, 3) := by decide +kernel
theorem dX0_speak_4 : decode cX0_speak 4 = .ok (.iload_n 1, 1) := by decide +kernel
theorem dX0_speak_5 : decode cX0_speak 5 = .ok (.iadd, 1) := by decide +kernel
theorem dX0_speak_6 : decode cX0_speak 6 = .ok (.bipush 6, 2) := by decide +kernel
theorem dX0_speak_8 : decode cX0_speak 8 = .ok (.irem, 1) := by decide +kernel
theorem dX0_speak_9 : decode cX0_speak 9 = .ok (.istore_n 2, 1) := by decide +kernel
theorem dX0_speak_10 : decode cX0_speak 10 = .ok (.aload_n 0, 1) := by decide +kernel
theorem dX0_speak_11 : decode cX0_speak 11 = .ok (.iload_n 1, 1) := by decide +kernel
theorem dX0_speak_12 : decode cX0_speak 12 = .ok (.iload_n 2, 1) := by decide +kernel
theorem dX0_speak_13 : decode cX0_speak 13 = .ok (.invokevirtual 142, 3) := by decide +kernel
theorem dX0_speak_16 : decode cX0_speak 16 = .ok (.istore_n 3, 1) := by decide +kernel
theorem dX0_speak_17 : decode cX0_speak 17 = .ok (.iload_n 3, 1) := by decide +kernel
theorem dX0_speak_18 : decode cX0_speak 18 = .ok (.ifCond .ne 4, 3) := by decide +kernel
theorem dX0_speak_21 : decode cX0_speak 21 = .ok (.return_, 1) := by decide +kernel
theorem dX0_speak_22 : decode cX0_speak 22 = .ok (.iconst 0, 1) := by decide +kernel
theorem dX0_speak_23 : decode cX0_speak 23 = .ok (.istore 4, 2) := by decide +kernel
theorem dX0_speak_25 : decode cX0_speak 25 = .ok (.iload 4, 2) := by decide +kernel
theorem dX0_speak_27 : decode cX0_speak 27 = .ok (.aload_n 0, 1) := by decide +kernel
theorem dX0_speak_28 : decode cX0_speak 28 = .ok (.getfield 44, 3) := by decide +kernel
theorem dX0_speak_31 : decode cX0_speak 31 = .ok (.if_icmp .ge 99, 3) := by decide +kernel
theorem dX0_speak_34 : decode cX0_speak 34 = .ok (.aload_n 0, 1) := by decide +kernel
theorem dX0_speak_35 : decode cX0_speak 35 = .ok (.iload 4, 2) := by decide +kernel
theorem dX0_speak_37 : decode cX0_speak 37 = .ok (.iload_n 1, 1) := by decide +kernel
theorem dX0_speak_38 : decode cX0_speak 38 = .ok (.invokevirtual 90, 3) := by decide +kernel
theorem dX0_speak_41 : decode cX0_speak 41 = .ok (.ifCond .ne 6, 3) := by decide +kernel
theorem dX0_speak_44 : decode cX0_speak 44 = .ok (.goto 80, 3) := by decide +kernel
theorem dX0_speak_47 : decode cX0_speak 47 = .ok (.aload_n 0, 1) := by decide +kernel
theorem dX0_speak_48 : decode cX0_speak 48 = .ok (.iload 4, 2) := by decide +kernel
theorem dX0_speak_50 : decode cX0_speak 50 = .ok (.iload_n 2, 1) := by decide +kernel
theorem dX0_speak_51 : decode cX0_speak 51 = .ok (.iload_n 3, 1) := by decide +kernel
theorem dX0_speak_52 : decode cX0_speak 52 = .ok (.invokevirtual 145, 3) := by decide +kernel
theorem dX0_speak_55 : decode cX0_speak 55 = .ok (.istore 5, 2) := by decide +kernel
theorem dX0_speak_57 : decode cX0_speak 57 = .ok (.iload 5, 2) := by decide +kernel
theorem dX0_speak_59 : decode cX0_speak 59 = .ok (.aload_n 0, 1) := by decide +kernel
theorem dX0_speak_60 : decode cX0_speak 60 = .ok (.getfield 21, 3) := by decide +kernel
theorem dX0_speak_63 : decode cX0_speak 63 = .ok (.iload 4, 2) := by decide +kernel
theorem dX0_speak_65 : decode cX0_speak 65 = .ok (.iaload, 1) := by decide +kernel
theorem dX0_speak_66 : decode cX0_speak 66 = .ok (.if_icmp .le 38, 3) := by decide +kernel
theorem dX0_speak_69 : decode cX0_speak 69 = .ok (.aload_n 0, 1) := by decide +kernel
theorem dX0_speak_70 : decode cX0_speak 70 = .ok (.iload 4, 2) := by decide +kernel
theorem dX0_speak_72 : decode cX0_speak 72 = .ok (.iload_n 2, 1) := by decide +kernel
theorem dX0_speak_73 : decode cX0_speak 73 = .ok (.iload_n 3, 1) := by decide +kernel
theorem dX0_speak_74 : decode cX0_speak 74 = .ok (.invokevirtual 68, 3) := by decide +kernel
theorem dX0_speak_77 : decode cX0_speak 77 = .ok (.aload_n 0, 1) := by decide +kernel
theorem dX0_speak_78 : decode cX0_speak 78 = .ok (.getfield 21, 3) := by decide +kernel
theorem dX0_speak_81 : decode cX0_speak 81 = .ok (.iload 4, 2) := by decide +kernel
theorem dX0_speak_83 : decode cX0_speak 83 = .ok (.iload 5, 2) := by decide +kernel
theorem dX0_speak_85 : decode cX0_speak 85 = .ok (.bipush 99, 2) := by decide +kernel
theorem dX0_speak_87 : decode cX0_speak 87 = .ok (.invokestatic 148, 3) := by decide +kernel
theorem dX0_speak_90 : decode cX0_speak 90 = .ok (.iastore, 1) := by decide +kernel
theorem dX0_speak_91 : decode cX0_speak 91 = .ok (.aload_n 0, 1) := by decide +kernel
theorem dX0_speak_92 : decode cX0_speak 92 = .ok (.dup, 1) := by decide +kernel
theorem dX0_speak_93 : decode cX0_speak 93 = .ok (.getfield 59, 3) := by decide +kernel
theorem dX0_speak_96 : decode cX0_speak 96 = .ok (.iconst 1, 1) := by decide +kernel
theorem dX0_speak_97 : decode cX0_speak 97 = .ok (.iadd, 1) := by decide +kernel
theorem dX0_speak_98 : decode cX0_speak 98 = .ok (.putfield 59, 3) := by decide +kernel
theorem dX0_speak_101 : decode cX0_speak 101 = .ok (.goto 23, 3) := by decide +kernel
theorem dX0_speak_104 : decode cX0_speak 104 = .ok (.aload_n 0, 1) := by decide +kernel
theorem dX0_speak_105 : decode cX0_speak 105 = .ok (.getfield 21, 3) := by decide +kernel
theorem dX0_speak_108 : decode cX0_speak 108 = .ok (.iload 4, 2) := by decide +kernel
theorem dX0_speak_110 : decode cX0_speak 110 = .ok (.aload_n 0, 1) := by decide +kernel
theorem dX0_speak_111 : decode cX0_speak 111 = .ok (.getfield 21, 3) := by decide +kernel
theorem dX0_speak_114 : decode cX0_speak 114 = .ok (.iload 4, 2) := by decide +kernel
theorem dX0_speak_116 : decode cX0_speak 116 = .ok (.iaload, 1) := by decide +kernel
theorem dX0_speak_117 : decode cX0_speak 117 = .ok (.iconst 1, 1) := by decide +kernel
theorem dX0_speak_118 : decode cX0_speak 118 = .ok (.isub, 1) := by decide +kernel
theorem dX0_speak_119 : decode cX0_speak 119 = .ok (.iconst 0, 1) := by decide +kernel
theorem dX0_speak_120 : decode cX0_speak 120 = .ok (.invokestatic 151, 3) := by decide +kernel
theorem dX0_speak_123 : decode cX0_speak 123 = .ok (.iastore, 1) := by decide +kernel
theorem dX0_speak_124 : decode cX0_speak 124 = .ok (.iinc 4 1, 3) := by decide +kernel
theorem dX0_speak_127 : decode cX0_speak 127 = .ok (.goto (-102), 3) := by decide +kernel
theorem dX0_speak_130 : decode cX0_speak 130 = .ok (.return_, 1) := by decide +kernel
theorem dX0_lookFromTheRoad_0 : decode cX0_lookFromTheRoad 0 = .ok (.aload_n 0, 1) := by decide +kernel
theorem dX0_lookFromTheRoad_1 : decode cX0_lookFromTheRoad 1 = .ok (.invokevirtual 72, 3) := by decide +kernel
theorem dX0_lookFromTheRoad_4 : decode cX0_lookFromTheRoad 4 = .ok (.bipush 8, 2) := by decide +kernel
theorem dX0_lookFromTheRoad_6 : decode cX0_lookFromTheRoad 6 = .ok (.irem, 1) := by decide +kernel
theorem dX0_lookFromTheRoad_7 : decode cX0_lookFromTheRoad 7 = .ok (.istore_n 1, 1) := by decide +kernel
theorem dX0_lookFromTheRoad_8 : decode cX0_lookFromTheRoad 8 = .ok (.aload_n 0, 1) := by decide +kernel
theorem dX0_lookFromTheRoad_9 : decode cX0_lookFromTheRoad 9 = .ok (.invokevirtual 72, 3) := by decide +kernel
theorem dX0_lookFromTheRoad_12 : decode cX0_lookFromTheRoad 12 = .ok (.bipush 6, 2) := by decide +kernel
theorem dX0_lookFromTheRoad_14 : decode cX0_lookFromTheRoad 14 = .ok (.irem, 1) := by decide +kernel
theorem dX0_lookFromTheRoad_15 : decode cX0_lookFromTheRoad 15 = .ok (.istore_n 2, 1) := by decide +kernel
theorem dX0_lookFromTheRoad_16 : decode cX0_lookFromTheRoad 16 = .ok (.aload_n 0, 1) := by decide +kernel
theorem dX0_lookFromTheRoad_17 : decode cX0_lookFromTheRoad 17 = .ok (.getfield 27, 3) := by decide +kernel
theorem dX0_lookFromTheRoad_20 : decode cX0_lookFromTheRoad 20 = .ok (.iload_n 2, 1) := by decide +kernel
theorem dX0_lookFromTheRoad_21 : decode cX0_lookFromTheRoad 21 = .ok (.iaload, 1) := by decide +kernel
theorem dX0_lookFromTheRoad_22 : decode cX0_lookFromTheRoad 22 = .ok (.ifCond .ne 4, 3) := by decide +kernel
theorem dX0_lookFromTheRoad_25 : decode cX0_lookFromTheRoad 25 = .ok (.return_, 1) := by decide +kernel
theorem dX0_lookFromTheRoad_26 : decode cX0_lookFromTheRoad 26 = .ok (.iconst 0, 1) := by decide +kernel
theorem dX0_lookFromTheRoad_27 : decode cX0_lookFromTheRoad 27 = .ok (.istore_n 3, 1) := by decide +kernel
theorem dX0_lookFromTheRoad_28 : decode cX0_lookFromTheRoad 28 = .ok (.iload_n 3, 1) := by decide +kernel
theorem dX0_lookFromTheRoad_29 : decode cX0_lookFromTheRoad 29 = .ok (.aload_n 0, 1) := by decide +kernel
theorem dX0_lookFromTheRoad_30 : decode cX0_lookFromTheRoad 30 = .ok (.getfield 44, 3) := by decide +kernel
theorem dX0_lookFromTheRoad_33 : decode cX0_lookFromTheRoad 33 = .ok (.if_icmp .ge 31, 3) := by decide +kernel
theorem dX0_lookFromTheRoad_36 : decode cX0_lookFromTheRoad 36 = .ok (.aload_n 0, 1) := by decide +kernel
theorem dX0_lookFromTheRoad_37 : decode cX0_lookFromTheRoad 37 = .ok (.getfield 15, 3) := by decide +kernel
theorem dX0_lookFromTheRoad_40 : decode cX0_lookFromTheRoad 40 = .ok (.iload_n 3, 1) := by decide +kernel
theorem dX0_lookFromTheRoad_41 : decode cX0_lookFromTheRoad 41 = .ok (.iaload, 1) := by decide +kernel
theorem dX0_lookFromTheRoad_42 : decode cX0_lookFromTheRoad 42 = .ok (.iload_n 1, 1) := by decide +kernel
theorem dX0_lookFromTheRoad_43 : decode cX0_lookFromTheRoad 43 = .ok (.if_icmp .ne 15, 3) := by decide +kernel
theorem dX0_lookFromTheRoad_46 : decode cX0_lookFromTheRoad 46 = .ok (.aload_n 0, 1) := by decide +kernel
theorem dX0_lookFromTheRoad_47 : decode cX0_lookFromTheRoad 47 = .ok (.iload_n 3, 1) := by decide +kernel
theorem dX0_lookFromTheRoad_48 : decode cX0_lookFromTheRoad 48 = .ok (.iload_n 2, 1) := by decide +kernel
theorem dX0_lookFromTheRoad_49 : decode cX0_lookFromTheRoad 49 = .ok (.aload_n 0, 1) := by decide +kernel
theorem dX0_lookFromTheRoad_50 : decode cX0_lookFromTheRoad 50 = .ok (.getfield 27, 3) := by decide +kernel
theorem dX0_lookFromTheRoad_53 : decode cX0_lookFromTheRoad 53 = .ok (.iload_n 2, 1) := by decide +kernel
theorem dX0_lookFromTheRoad_54 : decode cX0_lookFromTheRoad 54 = .ok (.iaload, 1) := by decide +kernel
theorem dX0_lookFromTheRoad_55 : decode cX0_lookFromTheRoad 55 = .ok (.invokevirtual 68, 3) := by decide +kernel
theorem dX0_lookFromTheRoad_58 : decode cX0_lookFromTheRoad 58 = .ok (.iinc 3 1, 3) := by decide +kernel
theorem dX0_lookFromTheRoad_61 : decode cX0_lookFromTheRoad 61 = .ok (.goto (-33), 3) := by decide +kernel
theorem dX0_lookFromTheRoad_64 : decode cX0_lookFromTheRoad 64 = .ok (.return_, 1) := by decide +kernel
theorem dX0_grow_0 : decode cX0_grow 0 = .ok (.aload_n 0, 1) := by decide +kernel
theorem dX0_grow_1 : decode cX0_grow 1 = .ok (.getfield 62, 3) := by decide +kernel
theorem dX0_grow_4 : decode cX0_grow 4 = .ok (.bipush 6, 2) := by decide +kernel
theorem dX0_grow_6 : decode cX0_grow 6 = .ok (.irem, 1) := by decide +kernel
theorem dX0_grow_7 : decode cX0_grow 7 = .ok (.istore_n 1, 1) := by decide +kernel
theorem dX0_grow_8 : decode cX0_grow 8 = .ok (.aload_n 0, 1) := by decide +kernel
theorem dX0_grow_9 : decode cX0_grow 9 = .ok (.iload_n 1, 1) := by decide +kernel
theorem dX0_grow_10 : decode cX0_grow 10 = .ok (.invokevirtual 100, 3) := by decide +kernel
theorem dX0_grow_13 : decode cX0_grow 13 = .ok (.istore_n 2, 1) := by decide +kernel
theorem dX0_grow_14 : decode cX0_grow 14 = .ok (.aload_n 0, 1) := by decide +kernel
theorem dX0_grow_15 : decode cX0_grow 15 = .ok (.getfield 30, 3) := by decide +kernel
theorem dX0_grow_18 : decode cX0_grow 18 = .ok (.iload_n 1, 1) := by decide +kernel
theorem dX0_grow_19 : decode cX0_grow 19 = .ok (.iload_n 2, 1) := by decide +kernel
theorem dX0_grow_20 : decode cX0_grow 20 = .ok (.iastore, 1) := by decide +kernel
theorem dX0_grow_21 : decode cX0_grow 21 = .ok (.aload_n 0, 1) := by decide +kernel
theorem dX0_grow_22 : decode cX0_grow 22 = .ok (.dup, 1) := by decide +kernel
theorem dX0_grow_23 : decode cX0_grow 23 = .ok (.getfield 53, 3) := by decide +kernel
theorem dX0_grow_26 : decode cX0_grow 26 = .ok (.aload_n 0, 1) := by decide +kernel
theorem dX0_grow_27 : decode cX0_grow 27 = .ok (.iload_n 1, 1) := by decide +kernel
theorem dX0_grow_28 : decode cX0_grow 28 = .ok (.iload_n 2, 1) := by decide +kernel
theorem dX0_grow_29 : decode cX0_grow 29 = .ok (.invokevirtual 97, 3) := by decide +kernel
theorem dX0_grow_32 : decode cX0_grow 32 = .ok (.iadd, 1) := by decide +kernel
theorem dX0_grow_33 : decode cX0_grow 33 = .ok (.putfield 53, 3) := by decide +kernel
theorem dX0_grow_36 : decode cX0_grow 36 = .ok (.iload_n 2, 1) := by decide +kernel
theorem dX0_grow_37 : decode cX0_grow 37 = .ok (.aload_n 0, 1) := by decide +kernel
theorem dX0_grow_38 : decode cX0_grow 38 = .ok (.getfield 27, 3) := by decide +kernel
theorem dX0_grow_41 : decode cX0_grow 41 = .ok (.iload_n 1, 1) := by decide +kernel
theorem dX0_grow_42 : decode cX0_grow 42 = .ok (.iaload, 1) := by decide +kernel
theorem dX0_grow_43 : decode cX0_grow 43 = .ok (.if_icmp .eq 13, 3) := by decide +kernel
theorem dX0_grow_46 : decode cX0_grow 46 = .ok (.aload_n 0, 1) := by decide +kernel
theorem dX0_grow_47 : decode cX0_grow 47 = .ok (.dup, 1) := by decide +kernel
theorem dX0_grow_48 : decode cX0_grow 48 = .ok (.getfield 56, 3) := by decide +kernel
theorem dX0_grow_51 : decode cX0_grow 51 = .ok (.iconst 1, 1) := by decide +kernel
theorem dX0_grow_52 : decode cX0_grow 52 = .ok (.iadd, 1) := by decide +kernel
theorem dX0_grow_53 : decode cX0_grow 53 = .ok (.putfield 56, 3) := by decide +kernel
theorem dX0_grow_56 : decode cX0_grow 56 = .ok (.return_, 1) := by decide +kernel
theorem dX1_init_0 : decode cX1_init 0 = .ok (.aload_n 0, 1) := by decide +kernel
theorem dX1_init_1 : decode cX1_init 1 = .ok (.invokespecial 3, 3) := by decide +kernel
theorem dX1_init_4 : decode cX1_init 4 = .ok (.aload_n 0, 1) := by decide +kernel
theorem dX1_init_5 : decode cX1_init 5 = .ok (.bipush 14, 2) := by decide +kernel
theorem dX1_init_7 : decode cX1_init 7 = .ok (.anewarray 9, 3) := by decide +kernel
theorem dX1_init_10 : decode cX1_init 10 = .ok (.putfield 11, 3) := by decide +kernel
theorem dX1_init_13 : decode cX1_init 13 = .ok (.aload_n 0, 1) := by decide +kernel
theorem dX1_init_14 : decode cX1_init 14 = .ok (.bipush 6, 2) := by decide +kernel
theorem dX1_init_16 : decode cX1_init 16 = .ok (.newarray .int, 2) := by decide +kernel
theorem dX1_init_18 : decode cX1_init 18 = .ok (.putfield 17, 3) := by decide +kernel
theorem dX1_init_21 : decode cX1_init 21 = .ok (.aload_n 0, 1) := by decide +kernel
theorem dX1_init_22 : decode cX1_init 22 = .ok (.bipush 96, 2) := by decide +kernel
theorem dX1_init_24 : decode cX1_init 24 = .ok (.newarray .int, 2) := by decide +kernel
theorem dX1_init_26 : decode cX1_init 26 = .ok (.putfield 21, 3) := by decide +kernel
theorem dX1_init_29 : decode cX1_init 29 = .ok (.iconst 0, 1) := by decide +kernel
theorem dX1_init_30 : decode cX1_init 30 = .ok (.istore_n 1, 1) := by decide +kernel
theorem dX1_init_31 : decode cX1_init 31 = .ok (.iload_n 1, 1) := by decide +kernel
theorem dX1_init_32 : decode cX1_init 32 = .ok (.bipush 14, 2) := by decide +kernel
theorem dX1_init_34 : decode cX1_init 34 = .ok (.if_icmp .ge 22, 3) := by decide +kernel
theorem dX1_init_37 : decode cX1_init 37 = .ok (.aload_n 0, 1) := by decide +kernel
theorem dX1_init_38 : decode cX1_init 38 = .ok (.getfield 11, 3) := by decide +kernel
theorem dX1_init_41 : decode cX1_init 41 = .ok (.iload_n 1, 1) := by decide +kernel
theorem dX1_init_42 : decode cX1_init 42 = .ok (.new 9, 3) := by decide +kernel
theorem dX1_init_45 : decode cX1_init 45 = .ok (.dup, 1) := by decide +kernel
theorem dX1_init_46 : decode cX1_init 46 = .ok (.invokespecial 24, 3) := by decide +kernel
theorem dX1_init_49 : decode cX1_init 49 = .ok (.aastore, 1) := by decide +kernel
theorem dX1_init_50 : decode cX1_init 50 = .ok (.iinc 1 1, 3) := by decide +kernel
theorem dX1_init_53 : decode cX1_init 53 = .ok (.goto (-22), 3) := by decide +kernel
theorem dX1_init_56 : decode cX1_init 56 = .ok (.return_, 1) := by decide +kernel
theorem dX1_given_0 : decode cX1_given 0 = .ok (.aload_n 0, 1) := by decide +kernel
theorem dX1_given_1 : decode cX1_given 1 = .ok (.getfield 11, 3) := by decide +kernel
theorem dX1_given_4 : decode cX1_given 4 = .ok (.iload_n 1, 1) := by decide +kernel
theorem dX1_given_5 : decode cX1_given 5 = .ok (.aaload, 1) := by decide +kernel
theorem dX1_given_6 : decode cX1_given 6 = .ok (.astore_n 2, 1) := by decide +kernel
theorem dX1_given_7 : decode cX1_given 7 = .ok (.iconst 0, 1) := by decide +kernel
theorem dX1_given_8 : decode cX1_given 8 = .ok (.istore_n 3, 1) := by decide +kernel
theorem dX1_given_9 : decode cX1_given 9 = .ok (.iconst 0, 1) := by decide +kernel
theorem dX1_given_10 : decode cX1_given 10 = .ok (.istore 4, 2) := by decide +kernel
theorem dX1_given_12 : decode cX1_given 12 = .ok (.iload 4, 2) := by decide +kernel
theorem dX1_given_14 : decode cX1_given 14 = .ok (.aload_n 2, 1) := by decide +kernel
theorem dX1_given_15 : decode cX1_given 15 = .ok (.getfield 25, 3) := by decide +kernel
theorem dX1_given_18 : decode cX1_given 18 = .ok (.if_icmp .ge 136, 3) := by decide +kernel
theorem dX1_given_21 : decode cX1_given 21 = .ok (.aload_n 2, 1) := by decide +kernel
theorem dX1_given_22 : decode cX1_given 22 = .ok (.getfield 29, 3) := by decide +kernel
theorem dX1_given_25 : decode cX1_given 25 = .ok (.iload 4, 2) := by decide +kernel
theorem dX1_given_27 : decode cX1_given 27 = .ok (.iaload, 1) := by decide +kernel
theorem dX1_given_28 : decode cX1_given 28 = .ok (.istore 5, 2) := by decide +kernel
theorem dX1_given_30 : decode cX1_given 30 = .ok (.iload 5, 2) := by decide +kernel
theorem dX1_given_32 : decode cX1_given 32 = .ok (.bipush (-6), 2) := by decide +kernel
theorem dX1_given_34 : decode cX1_given 34 = .ok (.if_icmp .lt 40, 3) := by decide +kernel
theorem dX1_given_37 : decode cX1_given 37 = .ok (.iload_n 3, 1) := by decide +kernel
theorem dX1_given_38 : decode cX1_given 38 = .ok (.bipush 96, 2) := by decide +kernel
theorem dX1_given_40 : decode cX1_given 40 = .ok (.if_icmp .ge 108, 3) := by decide +kernel
theorem dX1_given_43 : decode cX1_given 43 = .ok (.aload_n 0, 1) := by decide +kernel
theorem dX1_given_44 : decode cX1_given 44 = .ok (.getfield 21, 3) := by decide +kernel
theorem dX1_given_47 : decode cX1_given 47 = .ok (.iload_n 3, 1) := by decide +kernel
theorem dX1_given_48 : decode cX1_given 48 = .ok (.iload 5, 2) := by decide +kernel
theorem dX1_given_50 : decode cX1_given 50 = .ok (.ifCond .lt 8, 3) := by decide +kernel
theorem dX1_given_53 : decode cX1_given 53 = .ok (.iload 5, 2) := by decide +kernel
theorem dX1_given_55 : decode cX1_given 55 = .ok (.goto 12, 3) := by decide +kernel
theorem dX1_given_58 : decode cX1_given 58 = .ok (.aload_n 0, 1) := by decide +kernel
theorem dX1_given_59 : decode cX1_given 59 = .ok (.getfield 17, 3) := by decide +kernel
theorem dX1_given_62 : decode cX1_given 62 = .ok (.iconst (-1), 1) := by decide +kernel
theorem dX1_given_63 : decode cX1_given 63 = .ok (.iload 5, 2) := by decide +kernel
theorem dX1_given_65 : decode cX1_given 65 = .ok (.isub, 1) := by decide +kernel
theorem dX1_given_66 : decode cX1_given 66 = .ok (.iaload, 1) := by decide +kernel
theorem dX1_given_67 : decode cX1_given 67 = .ok (.iastore, 1) := by decide +kernel
theorem dX1_given_68 : decode cX1_given 68 = .ok (.iinc 3 1, 3) := by decide +kernel
theorem dX1_given_71 : decode cX1_given 71 = .ok (.goto 77, 3) := by decide +kernel
theorem dX1_given_74 : decode cX1_given 74 = .ok (.iload 5, 2) := by decide +kernel
theorem dX1_given_76 : decode cX1_given 76 = .ok (.bipush (-33), 2) := by decide +kernel
theorem dX1_given_78 : decode cX1_given 78 = .ok (.if_icmp .ne 34, 3) := by decide +kernel
theorem dX1_given_81 : decode cX1_given 81 = .ok (.iload_n 3, 1) := by decide +kernel
theorem dX1_given_82 : decode cX1_given 82 = .ok (.ifCond .le 66, 3) := by decide +kernel
theorem dX1_given_85 : decode cX1_given 85 = .ok (.aload_n 0, 1) := by decide +kernel
theorem dX1_given_86 : decode cX1_given 86 = .ok (.getfield 21, 3) := by decide +kernel
theorem dX1_given_89 : decode cX1_given 89 = .ok (.iload_n 3, 1) := by decide +kernel
theorem dX1_given_90 : decode cX1_given 90 = .ok (.iconst 1, 1) := by decide +kernel
theorem dX1_given_91 : decode cX1_given 91 = .ok (.isub, 1) := by decide +kernel
theorem dX1_given_92 : decode cX1_given 92 = .ok (.aload_n 0, 1) := by decide +kernel
theorem dX1_given_93 : decode cX1_given 93 = .ok (.getfield 21, 3) := by decide +kernel
theorem dX1_given_96 : decode cX1_given 96 = .ok (.iload_n 3, 1) := by decide +kernel
theorem dX1_given_97 : decode cX1_given 97 = .ok (.iconst 1, 1) := by decide +kernel
theorem dX1_given_98 : decode cX1_given 98 = .ok (.isub, 1) := by decide +kernel
theorem dX1_given_99 : decode cX1_given 99 = .ok (.iaload, 1) := by decide +kernel
theorem dX1_given_100 : decode cX1_given 100 = .ok (.ifCond .ne 7, 3) := by decide +kernel
theorem dX1_given_103 : decode cX1_given 103 = .ok (.iconst 1, 1) := by decide +kernel
theorem dX1_given_104 : decode cX1_given 104 = .ok (.goto 4, 3) := by decide +kernel
theorem dX1_given_107 : decode cX1_given 107 = .ok (.iconst 0, 1) := by decide +kernel
theorem dX1_given_108 : decode cX1_given 108 = .ok (.iastore, 1) := by decide +kernel
theorem dX1_given_109 : decode cX1_given 109 = .ok (.goto 39, 3) := by decide +kernel
theorem dX1_given_112 : decode cX1_given 112 = .ok (.iload_n 3, 1) := by decide +kernel
theorem dX1_given_113 : decode cX1_given 113 = .ok (.iconst 1, 1) := by decide +kernel
theorem dX1_given_114 : decode cX1_given 114 = .ok (.if_icmp .le 34, 3) := by decide +kernel
theorem dX1_given_117 : decode cX1_given 117 = .ok (.iinc 3 (-1), 3) := by decide +kernel
theorem dX1_given_120 : decode cX1_given 120 = .ok (.aload_n 0, 1) := by decide +kernel
theorem dX1_given_121 : decode cX1_given 121 = .ok (.getfield 21, 3) := by decide +kernel
theorem dX1_given_124 : decode cX1_given 124 = .ok (.iload_n 3, 1) := by decide +kernel
theorem dX1_given_125 : decode cX1_given 125 = .ok (.iconst 1, 1) := by decide +kernel
theorem dX1_given_126 : decode cX1_given 126 = .ok (.isub, 1) := by decide +kernel
theorem dX1_given_127 : decode cX1_given 127 = .ok (.iload 5, 2) := by decide +kernel
theorem dX1_given_129 : decode cX1_given 129 = .ok (.ineg, 1) := by decide +kernel
theorem dX1_given_130 : decode cX1_given 130 = .ok (.aload_n 0, 1) := by decide +kernel
theorem dX1_given_131 : decode cX1_given 131 = .ok (.getfield 21, 3) := by decide +kernel
theorem dX1_given_134 : decode cX1_given 134 = .ok (.iload_n 3, 1) := by decide +kernel
theorem dX1_given_135 : decode cX1_given 135 = .ok (.iconst 1, 1) := by decide +kernel
theorem dX1_given_136 : decode cX1_given 136 = .ok (.isub, 1) := by decide +kernel
theorem dX1_given_137 : decode cX1_given 137 = .ok (.iaload, 1) := by decide +kernel
theorem dX1_given_138 : decode cX1_given 138 = .ok (.aload_n 0, 1) := by decide +kernel
theorem dX1_given_139 : decode cX1_given 139 = .ok (.getfield 21, 3) := by decide +kernel
theorem dX1_given_142 : decode cX1_given 142 = .ok (.iload_n 3, 1) := by decide +kernel
theorem dX1_given_143 : decode cX1_given 143 = .ok (.iaload, 1) := by decide +kernel
theorem dX1_given_144 : decode cX1_given 144 = .ok (.invokestatic 32, 3) := by decide +kernel
theorem dX1_given_147 : decode cX1_given 147 = .ok (.iastore, 1) := by decide +kernel
theorem dX1_given_148 : decode cX1_given 148 = .ok (.iinc 4 1, 3) := by decide +kernel
theorem dX1_given_151 : decode cX1_given 151 = .ok (.goto (-139), 3) := by decide +kernel
theorem dX1_given_154 : decode cX1_given 154 = .ok (.iload_n 3, 1) := by decide +kernel
theorem dX1_given_155 : decode cX1_given 155 = .ok (.ifCond .le 12, 3) := by decide +kernel
theorem dX1_given_158 : decode cX1_given 158 = .ok (.aload_n 0, 1) := by decide +kernel
theorem dX1_given_159 : decode cX1_given 159 = .ok (.getfield 21, 3) := by decide +kernel
theorem dX1_given_162 : decode cX1_given 162 = .ok (.iconst 0, 1) := by decide +kernel
theorem dX1_given_163 : decode cX1_given 163 = .ok (.iaload, 1) := by decide +kernel
theorem dX1_given_164 : decode cX1_given 164 = .ok (.goto 4, 3) := by decide +kernel
theorem dX1_given_167 : decode cX1_given 167 = .ok (.iconst 0, 1) := by decide +kernel
theorem dX1_given_168 : decode cX1_given 168 = .ok (.ireturn, 1) := by decide +kernel
theorem dX1_joined_0 : decode cX1_joined 0 = .ok (.iload_n 0, 1) := by decide +kernel
theorem dX1_joined_1 : decode cX1_joined 1 = .ok (.tableswitch 186 38 62 #[172, 186, 186, 186, 115, 131, 186, 135, 186, 119, 186, 186, 186, 186, 186, 186, 186, 186, 186, 186, 186, 186, 139, 150, 161], 115) := by decide +kernel
theorem dX1_joined_116 : decode cX1_joined 116 = .ok (.iload_n 1, 1) := by decide +kernel
theorem dX1_joined_117 : decode cX1_joined 117 = .ok (.iload_n 2, 1) := by decide +kernel
theorem dX1_joined_118 : decode cX1_joined 118 = .ok (.imul, 1) := by decide +kernel
theorem dX1_joined_119 : decode cX1_joined 119 = .ok (.ireturn, 1) := by decide +kernel
theorem dX1_joined_120 : decode cX1_joined 120 = .ok (.iload_n 2, 1) := by decide +kernel
theorem dX1_joined_121 : decode cX1_joined 121 = .ok (.ifCond .ne 7, 3) := by decide +kernel
theorem dX1_joined_124 : decode cX1_joined 124 = .ok (.iconst 0, 1) := by decide +kernel
theorem dX1_joined_125 : decode cX1_joined 125 = .ok (.goto 6, 3) := by decide +kernel
theorem dX1_joined_128 : decode cX1_joined 128 = .ok (.iload_n 1, 1) := by decide +kernel
theorem dX1_joined_129 : decode cX1_joined 129 = .ok (.iload_n 2, 1) := by decide +kernel
theorem dX1_joined_130 : decode cX1_joined 130 = .ok (.idiv, 1) := by decide +kernel
theorem dX1_joined_131 : decode cX1_joined 131 = .ok (.ireturn, 1) := by decide +kernel
theorem dX1_joined_132 : decode cX1_joined 132 = .ok (.iload_n 1, 1) := by decide +kernel
theorem dX1_joined_133 : decode cX1_joined 133 = .ok (.iload_n 2, 1) := by decide +kernel
theorem dX1_joined_134 : decode cX1_joined 134 = .ok (.iadd, 1) := by decide +kernel
theorem dX1_joined_135 : decode cX1_joined 135 = .ok (.ireturn, 1) := by decide +kernel
theorem dX1_joined_136 : decode cX1_joined 136 = .ok (.iload_n 1, 1) := by decide +kernel
theorem dX1_joined_137 : decode cX1_joined 137 = .ok (.iload_n 2, 1) := by decide +kernel
theorem dX1_joined_138 : decode cX1_joined 138 = .ok (.isub, 1) := by decide +kernel
theorem dX1_joined_139 : decode cX1_joined 139 = .ok (.ireturn, 1) := by decide +kernel
theorem dX1_joined_140 : decode cX1_joined 140 = .ok (.iload_n 1, 1) := by decide +kernel
theorem dX1_joined_141 : decode cX1_joined 141 = .ok (.iload_n 2, 1) := by decide +kernel
theorem dX1_joined_142 : decode cX1_joined 142 = .ok (.if_icmp .ge 7, 3) := by decide +kernel
theorem dX1_joined_145 : decode cX1_joined 145 = .ok (.iconst 1, 1) := by decide +kernel
theorem dX1_joined_146 : decode cX1_joined 146 = .ok (.goto 4, 3) := by decide +kernel
theorem dX1_joined_149 : decode cX1_joined 149 = .ok (.iconst 0, 1) := by decide +kernel
theorem dX1_joined_150 : decode cX1_joined 150 = .ok (.ireturn, 1) := by decide +kernel
theorem dX1_joined_151 : decode cX1_joined 151 = .ok (.iload_n 1, 1) := by decide +kernel
theorem dX1_joined_152 : decode cX1_joined 152 = .ok (.iload_n 2, 1) := by decide +kernel
theorem dX1_joined_153 : decode cX1_joined 153 = .ok (.if_icmp .ne 7, 3) := by decide +kernel
theorem dX1_joined_156 : decode cX1_joined 156 = .ok (.iconst 1, 1) := by decide +kernel
theorem dX1_joined_157 : decode cX1_joined 157 = .ok (.goto 4, 3) := by decide +kernel
theorem dX1_joined_160 : decode cX1_joined 160 = .ok (.iconst 0, 1) := by decide +kernel
theorem dX1_joined_161 : decode cX1_joined 161 = .ok (.ireturn, 1) := by decide +kernel
theorem dX1_joined_162 : decode cX1_joined 162 = .ok (.iload_n 1, 1) := by decide +kernel
theorem dX1_joined_163 : decode cX1_joined 163 = .ok (.iload_n 2, 1) := by decide +kernel
theorem dX1_joined_164 : decode cX1_joined 164 = .ok (.if_icmp .le 7, 3) := by decide +kernel
theorem dX1_joined_167 : decode cX1_joined 167 = .ok (.iconst 1, 1) := by decide +kernel
theorem dX1_joined_168 : decode cX1_joined 168 = .ok (.goto 4, 3) := by decide +kernel
theorem dX1_joined_171 : decode cX1_joined 171 = .ok (.iconst 0, 1) := by decide +kernel
theorem dX1_joined_172 : decode cX1_joined 172 = .ok (.ireturn, 1) := by decide +kernel
theorem dX1_joined_173 : decode cX1_joined 173 = .ok (.iload_n 1, 1) := by decide +kernel
theorem dX1_joined_174 : decode cX1_joined 174 = .ok (.ifCond .eq 11, 3) := by decide +kernel
theorem dX1_joined_177 : decode cX1_joined 177 = .ok (.iload_n 2, 1) := by decide +kernel
theorem dX1_joined_178 : decode cX1_joined 178 = .ok (.ifCond .eq 7, 3) := by decide +kernel
theorem dX1_joined_181 : decode cX1_joined 181 = .ok (.iconst 1, 1) := by decide +kernel
theorem dX1_joined_182 : decode cX1_joined 182 = .ok (.goto 4, 3) := by decide +kernel
theorem dX1_joined_185 : decode cX1_joined 185 = .ok (.iconst 0, 1) := by decide +kernel
theorem dX1_joined_186 : decode cX1_joined 186 = .ok (.ireturn, 1) := by decide +kernel
theorem dX1_joined_187 : decode cX1_joined 187 = .ok (.iload_n 1, 1) := by decide +kernel
theorem dX1_joined_188 : decode cX1_joined 188 = .ok (.ifCond .ne 7, 3) := by decide +kernel
theorem dX1_joined_191 : decode cX1_joined 191 = .ok (.iload_n 2, 1) := by decide +kernel
theorem dX1_joined_192 : decode cX1_joined 192 = .ok (.ifCond .eq 7, 3) := by decide +kernel
theorem dX1_joined_195 : decode cX1_joined 195 = .ok (.iconst 1, 1) := by decide +kernel
theorem dX1_joined_196 : decode cX1_joined 196 = .ok (.goto 4, 3) := by decide +kernel
theorem dX1_joined_199 : decode cX1_joined 199 = .ok (.iconst 0, 1) := by decide +kernel
theorem dX1_joined_200 : decode cX1_joined 200 = .ok (.ireturn, 1) := by decide +kernel
theorem dX2_init_0 : decode cX2_init 0 = .ok (.aload_n 0, 1) := by decide +kernel
theorem dX2_init_1 : decode cX2_init 1 = .ok (.invokespecial 3, 3) := by decide +kernel
theorem dX2_init_4 : decode cX2_init 4 = .ok (.aload_n 0, 1) := by decide +kernel
theorem dX2_init_5 : decode cX2_init 5 = .ok (.bipush 96, 2) := by decide +kernel
theorem dX2_init_7 : decode cX2_init 7 = .ok (.newarray .byte, 2) := by decide +kernel
theorem dX2_init_9 : decode cX2_init 9 = .ok (.putfield 9, 3) := by decide +kernel
theorem dX2_init_12 : decode cX2_init 12 = .ok (.aload_n 0, 1) := by decide +kernel
theorem dX2_init_13 : decode cX2_init 13 = .ok (.new 15, 3) := by decide +kernel
theorem dX2_init_16 : decode cX2_init 16 = .ok (.dup, 1) := by decide +kernel
theorem dX2_init_17 : decode cX2_init 17 = .ok (.invokespecial 17, 3) := by decide +kernel
theorem dX2_init_20 : decode cX2_init 20 = .ok (.putfield 18, 3) := by decide +kernel
theorem dX2_init_23 : decode cX2_init 23 = .ok (.aload_n 0, 1) := by decide +kernel
theorem dX2_init_24 : decode cX2_init 24 = .ok (.bipush 96, 2) := by decide +kernel
theorem dX2_init_26 : decode cX2_init 26 = .ok (.newarray .int, 2) := by decide +kernel
theorem dX2_init_28 : decode cX2_init 28 = .ok (.putfield 22, 3) := by decide +kernel
theorem dX2_init_31 : decode cX2_init 31 = .ok (.return_, 1) := by decide +kernel
theorem dX2_take_0 : decode cX2_take 0 = .ok (.bipush 24, 2) := by decide +kernel
theorem dX2_take_2 : decode cX2_take 2 = .ok (.istore_n 2, 1) := by decide +kernel
theorem dX2_take_3 : decode cX2_take 3 = .ok (.iload_n 2, 1) := by decide +kernel
theorem dX2_take_4 : decode cX2_take 4 = .ok (.ifCond .lt 41, 3) := by decide +kernel
theorem dX2_take_7 : decode cX2_take 7 = .ok (.aload_n 0, 1) := by decide +kernel
theorem dX2_take_8 : decode cX2_take 8 = .ok (.getfield 26, 3) := by decide +kernel
theorem dX2_take_11 : decode cX2_take 11 = .ok (.bipush 96, 2) := by decide +kernel
theorem dX2_take_13 : decode cX2_take 13 = .ok (.if_icmp .ge 32, 3) := by decide +kernel
theorem dX2_take_16 : decode cX2_take 16 = .ok (.aload_n 0, 1) := by decide +kernel
theorem dX2_take_17 : decode cX2_take 17 = .ok (.getfield 9, 3) := by decide +kernel
theorem dX2_take_20 : decode cX2_take 20 = .ok (.aload_n 0, 1) := by decide +kernel
theorem dX2_take_21 : decode cX2_take 21 = .ok (.getfield 26, 3) := by decide +kernel
theorem dX2_take_24 : decode cX2_take 24 = .ok (.iload_n 1, 1) := by decide +kernel
theorem dX2_take_25 : decode cX2_take 25 = .ok (.iload_n 2, 1) := by decide +kernel
theorem dX2_take_26 : decode cX2_take 26 = .ok (.ishr, 1) := by decide +kernel
theorem dX2_take_27 : decode cX2_take 27 = .ok (.i2b, 1) := by decide +kernel
theorem dX2_take_28 : decode cX2_take 28 = .ok (.bastore, 1) := by decide +kernel
theorem dX2_take_29 : decode cX2_take 29 = .ok (.aload_n 0, 1) := by decide +kernel
theorem dX2_take_30 : decode cX2_take 30 = .ok (.dup, 1) := by decide +kernel
theorem dX2_take_31 : decode cX2_take 31 = .ok (.getfield 26, 3) := by decide +kernel
theorem dX2_take_34 : decode cX2_take 34 = .ok (.iconst 1, 1) := by decide +kernel
theorem dX2_take_35 : decode cX2_take 35 = .ok (.iadd, 1) := by decide +kernel
theorem dX2_take_36 : decode cX2_take 36 = .ok (.putfield 26, 3) := by decide +kernel
theorem dX2_take_39 : decode cX2_take 39 = .ok (.iinc 2 (-8), 3) := by decide +kernel
theorem dX2_take_42 : decode cX2_take 42 = .ok (.goto (-39), 3) := by decide +kernel
theorem dX2_take_45 : decode cX2_take 45 = .ok (.return_, 1) := by decide +kernel
theorem dX2_faultOnTape_0 : decode cX2_faultOnTape 0 = .ok (.aload_n 0, 1) := by decide +kernel
theorem dX2_faultOnTape_1 : decode cX2_faultOnTape 1 = .ok (.iconst 0, 1) := by decide +kernel
theorem dX2_faultOnTape_2 : decode cX2_faultOnTape 2 = .ok (.putfield 30, 3) := by decide +kernel
theorem dX2_faultOnTape_5 : decode cX2_faultOnTape 5 = .ok (.aload_n 0, 1) := by decide +kernel
theorem dX2_faultOnTape_6 : decode cX2_faultOnTape 6 = .ok (.iconst (-1), 1) := by decide +kernel
theorem dX2_faultOnTape_7 : decode cX2_faultOnTape 7 = .ok (.putfield 33, 3) := by decide +kernel
theorem dX2_faultOnTape_10 : decode cX2_faultOnTape 10 = .ok (.aload_n 0, 1) := by decide +kernel
theorem dX2_faultOnTape_11 : decode cX2_faultOnTape 11 = .ok (.iconst 0, 1) := by decide +kernel
theorem dX2_faultOnTape_12 : decode cX2_faultOnTape 12 = .ok (.putfield 36, 3) := by decide +kernel
theorem dX2_faultOnTape_15 : decode cX2_faultOnTape 15 = .ok (.aload_n 0, 1) := by decide +kernel
theorem dX2_faultOnTape_16 : decode cX2_faultOnTape 16 = .ok (.iconst 0, 1) := by decide +kernel
theorem dX2_faultOnTape_17 : decode cX2_faultOnTape 17 = .ok (.putfield 39, 3) := by decide +kernel
theorem dX2_faultOnTape_20 : decode cX2_faultOnTape 20 = .ok (.aload_n 0, 1) := by decide +kernel
theorem dX2_faultOnTape_21 : decode cX2_faultOnTape 21 = .ok (.iconst 0, 1) := by decide +kernel
theorem dX2_faultOnTape_22 : decode cX2_faultOnTape 22 = .ok (.putfield 42, 3) := by decide +kernel
theorem dX2_faultOnTape_25 : decode cX2_faultOnTape 25 = .ok (.aload_n 0, 1) := by decide +kernel
theorem dX2_faultOnTape_26 : decode cX2_faultOnTape 26 = .ok (.invokevirtual 45, 3) := by decide +kernel
theorem dX2_faultOnTape_29 : decode cX2_faultOnTape 29 = .ok (.aload_n 0, 1) := by decide +kernel
theorem dX2_faultOnTape_30 : decode cX2_faultOnTape 30 = .ok (.invokevirtual 48, 3) := by decide +kernel
theorem dX2_faultOnTape_33 : decode cX2_faultOnTape 33 = .ok (.istore_n 1, 1) := by decide +kernel
theorem dX2_faultOnTape_34 : decode cX2_faultOnTape 34 = .ok (.iload_n 1, 1) := by decide +kernel
theorem dX2_faultOnTape_35 : decode cX2_faultOnTape 35 = .ok (.ifCond .ge 8, 3) := by decide +kernel
theorem dX2_faultOnTape_38 : decode cX2_faultOnTape 38 = .ok (.aload_n 0, 1) := by decide +kernel
theorem dX2_faultOnTape_39 : decode cX2_faultOnTape 39 = .ok (.getfield 52, 3) := by decide +kernel
theorem dX2_faultOnTape_42 : decode cX2_faultOnTape 42 = .ok (.ireturn, 1) := by decide +kernel
theorem dX2_faultOnTape_43 : decode cX2_faultOnTape 43 = .ok (.aload_n 0, 1) := by decide +kernel
theorem dX2_faultOnTape_44 : decode cX2_faultOnTape 44 = .ok (.getfield 18, 3) := by decide +kernel
theorem dX2_faultOnTape_47 : decode cX2_faultOnTape 47 = .ok (.iload_n 1, 1) := by decide +kernel
theorem dX2_faultOnTape_48 : decode cX2_faultOnTape 48 = .ok (.invokevirtual 55, 3) := by decide +kernel
theorem dX2_faultOnTape_51 : decode cX2_faultOnTape 51 = .ok (.iconst 1, 1) := by decide +kernel
theorem dX2_faultOnTape_52 : decode cX2_faultOnTape 52 = .ok (.istore_n 2, 1) := by decide +kernel
theorem dX2_faultOnTape_53 : decode cX2_faultOnTape 53 = .ok (.iconst 0, 1) := by decide +kernel
theorem dX2_faultOnTape_54 : decode cX2_faultOnTape 54 = .ok (.istore_n 3, 1) := by decide +kernel
theorem dX2_faultOnTape_55 : decode cX2_faultOnTape 55 = .ok (.iload_n 3, 1) := by decide +kernel
theorem dX2_faultOnTape_56 : decode cX2_faultOnTape 56 = .ok (.bipush 96, 2) := by decide +kernel
theorem dX2_faultOnTape_58 : decode cX2_faultOnTape 58 = .ok (.if_icmp .ge 101, 3) := by decide +kernel
theorem dX2_faultOnTape_61 : decode cX2_faultOnTape 61 = .ok (.aload_n 0, 1) := by decide +kernel
theorem dX2_faultOnTape_62 : decode cX2_faultOnTape 62 = .ok (.invokevirtual 45, 3) := by decide +kernel
theorem dX2_faultOnTape_65 : decode cX2_faultOnTape 65 = .ok (.aload_n 0, 1) := by decide +kernel
theorem dX2_faultOnTape_66 : decode cX2_faultOnTape 66 = .ok (.getfield 59, 3) := by decide +kernel
theorem dX2_faultOnTape_69 : decode cX2_faultOnTape 69 = .ok (.sipush 1000, 3) := by decide +kernel
theorem dX2_faultOnTape_72 : decode cX2_faultOnTape 72 = .ok (.if_icmp .ne 20, 3) := by decide +kernel
theorem dX2_faultOnTape_75 : decode cX2_faultOnTape 75 = .ok (.aload_n 0, 1) := by decide +kernel
theorem dX2_faultOnTape_76 : decode cX2_faultOnTape 76 = .ok (.iload_n 2, 1) := by decide +kernel
theorem dX2_faultOnTape_77 : decode cX2_faultOnTape 77 = .ok (.invokevirtual 62, 3) := by decide +kernel
theorem dX2_faultOnTape_80 : decode cX2_faultOnTape 80 = .ok (.ifCond .eq 7, 3) := by decide +kernel
theorem dX2_faultOnTape_83 : decode cX2_faultOnTape 83 = .ok (.iconst (-1), 1) := by decide +kernel
theorem dX2_faultOnTape_84 : decode cX2_faultOnTape 84 = .ok (.goto 7, 3) := by decide +kernel
theorem dX2_faultOnTape_87 : decode cX2_faultOnTape 87 = .ok (.aload_n 0, 1) := by decide +kernel
theorem dX2_faultOnTape_88 : decode cX2_faultOnTape 88 = .ok (.getfield 52, 3) := by decide +kernel
theorem dX2_faultOnTape_91 : decode cX2_faultOnTape 91 = .ok (.ireturn, 1) := by decide +kernel
theorem dX2_faultOnTape_92 : decode cX2_faultOnTape 92 = .ok (.iload_n 2, 1) := by decide +kernel
theorem dX2_faultOnTape_93 : decode cX2_faultOnTape 93 = .ok (.ifCond .eq 10, 3) := by decide +kernel
theorem dX2_faultOnTape_96 : decode cX2_faultOnTape 96 = .ok (.aload_n 0, 1) := by decide +kernel
theorem dX2_faultOnTape_97 : decode cX2_faultOnTape 97 = .ok (.invokevirtual 66, 3) := by decide +kernel
theorem dX2_faultOnTape_100 : decode cX2_faultOnTape 100 = .ok (.goto 7, 3) := by decide +kernel
theorem dX2_faultOnTape_103 : decode cX2_faultOnTape 103 = .ok (.aload_n 0, 1) := by decide +kernel
theorem dX2_faultOnTape_104 : decode cX2_faultOnTape 104 = .ok (.invokevirtual 70, 3) := by decide +kernel
theorem dX2_faultOnTape_107 : decode cX2_faultOnTape 107 = .ok (.istore 4, 2) := by decide +kernel
theorem dX2_faultOnTape_109 : decode cX2_faultOnTape 109 = .ok (.iload 4, 2) := by decide +kernel
theorem dX2_faultOnTape_111 : decode cX2_faultOnTape 111 = .ok (.ifCond .ne 8, 3) := by decide +kernel
theorem dX2_faultOnTape_114 : decode cX2_faultOnTape 114 = .ok (.aload_n 0, 1) := by decide +kernel
theorem dX2_faultOnTape_115 : decode cX2_faultOnTape 115 = .ok (.getfield 52, 3) := by decide +kernel
theorem dX2_faultOnTape_118 : decode cX2_faultOnTape 118 = .ok (.ireturn, 1) := by decide +kernel
theorem dX2_faultOnTape_119 : decode cX2_faultOnTape 119 = .ok (.aload_n 0, 1) := by decide +kernel
theorem dX2_faultOnTape_120 : decode cX2_faultOnTape 120 = .ok (.getfield 59, 3) := by decide +kernel
theorem dX2_faultOnTape_123 : decode cX2_faultOnTape 123 = .ok (.bipush 40, 2) := by decide +kernel
theorem dX2_faultOnTape_125 : decode cX2_faultOnTape 125 = .ok (.if_icmp .eq 22, 3) := by decide +kernel
theorem dX2_faultOnTape_128 : decode cX2_faultOnTape 128 = .ok (.aload_n 0, 1) := by decide +kernel
theorem dX2_faultOnTape_129 : decode cX2_faultOnTape 129 = .ok (.getfield 59, 3) := by decide +kernel
theorem dX2_faultOnTape_132 : decode cX2_faultOnTape 132 = .ok (.bipush 33, 2) := by decide +kernel
theorem dX2_faultOnTape_134 : decode cX2_faultOnTape 134 = .ok (.if_icmp .eq 13, 3) := by decide +kernel
theorem dX2_faultOnTape_137 : decode cX2_faultOnTape 137 = .ok (.aload_n 0, 1) := by decide +kernel
theorem dX2_faultOnTape_138 : decode cX2_faultOnTape 138 = .ok (.getfield 59, 3) := by decide +kernel
theorem dX2_faultOnTape_141 : decode cX2_faultOnTape 141 = .ok (.invokestatic 73, 3) := by decide +kernel
theorem dX2_faultOnTape_144 : decode cX2_faultOnTape 144 = .ok (.ifCond .eq 7, 3) := by decide +kernel
theorem dX2_faultOnTape_147 : decode cX2_faultOnTape 147 = .ok (.iconst 1, 1) := by decide +kernel
theorem dX2_faultOnTape_148 : decode cX2_faultOnTape 148 = .ok (.goto 4, 3) := by decide +kernel
theorem dX2_faultOnTape_151 : decode cX2_faultOnTape 151 = .ok (.iconst 0, 1) := by decide +kernel
theorem dX2_faultOnTape_152 : decode cX2_faultOnTape 152 = .ok (.istore_n 2, 1) := by decide +kernel
theorem dX2_faultOnTape_153 : decode cX2_faultOnTape 153 = .ok (.iinc 3 1, 3) := by decide +kernel
theorem dX2_faultOnTape_156 : decode cX2_faultOnTape 156 = .ok (.goto (-101), 3) := by decide +kernel
theorem dX2_faultOnTape_159 : decode cX2_faultOnTape 159 = .ok (.aload_n 0, 1) := by decide +kernel
theorem dX2_faultOnTape_160 : decode cX2_faultOnTape 160 = .ok (.getfield 26, 3) := by decide +kernel
theorem dX2_faultOnTape_163 : decode cX2_faultOnTape 163 = .ok (.ireturn, 1) := by decide +kernel
theorem dX2_finished_0 : decode cX2_finished 0 = .ok (.iload_n 1, 1) := by decide +kernel
theorem dX2_finished_1 : decode cX2_finished 1 = .ok (.ifCond .ne 10, 3) := by decide +kernel
theorem dX2_finished_4 : decode cX2_finished 4 = .ok (.aload_n 0, 1) := by decide +kernel
theorem dX2_finished_5 : decode cX2_finished 5 = .ok (.getfield 39, 3) := by decide +kernel
theorem dX2_finished_8 : decode cX2_finished 8 = .ok (.ifCond .le 5, 3) := by decide +kernel
theorem dX2_finished_11 : decode cX2_finished 11 = .ok (.iconst 0, 1) := by decide +kernel
theorem dX2_finished_12 : decode cX2_finished 12 = .ok (.ireturn, 1) := by decide +kernel
theorem dX2_finished_13 : decode cX2_finished 13 = .ok (.aload_n 0, 1) := by decide +kernel
theorem dX2_finished_14 : decode cX2_finished 14 = .ok (.iconst 0, 1) := by decide +kernel
theorem dX2_finished_15 : decode cX2_finished 15 = .ok (.invokevirtual 77, 3) := by decide +kernel
theorem dX2_finished_18 : decode cX2_finished 18 = .ok (.iconst 1, 1) := by decide +kernel
theorem dX2_finished_19 : decode cX2_finished 19 = .ok (.ireturn, 1) := by decide +kernel
theorem dX2_next_0 : decode cX2_next 0 = .ok (.aload_n 0, 1) := by decide +kernel
theorem dX2_next_1 : decode cX2_next 1 = .ok (.getfield 30, 3) := by decide +kernel
theorem dX2_next_4 : decode cX2_next 4 = .ok (.aload_n 0, 1) := by decide +kernel
theorem dX2_next_5 : decode cX2_next 5 = .ok (.getfield 26, 3) := by decide +kernel
theorem dX2_next_8 : decode cX2_next 8 = .ok (.if_icmp .ge 30, 3) := by decide +kernel
theorem dX2_next_11 : decode cX2_next 11 = .ok (.aload_n 0, 1) := by decide +kernel
theorem dX2_next_12 : decode cX2_next 12 = .ok (.getfield 9, 3) := by decide +kernel
theorem dX2_next_15 : decode cX2_next 15 = .ok (.aload_n 0, 1) := by decide +kernel
theorem dX2_next_16 : decode cX2_next 16 = .ok (.getfield 30, 3) := by decide +kernel
theorem dX2_next_19 : decode cX2_next 19 = .ok (.baload, 1) := by decide +kernel
theorem dX2_next_20 : decode cX2_next 20 = .ok (.bipush 32, 2) := by decide +kernel
theorem dX2_next_22 : decode cX2_next 22 = .ok (.if_icmp .ne 16, 3) := by decide +kernel
theorem dX2_next_25 : decode cX2_next 25 = .ok (.aload_n 0, 1) := by decide +kernel
theorem dX2_next_26 : decode cX2_next 26 = .ok (.dup, 1) := by decide +kernel
theorem dX2_next_27 : decode cX2_next 27 = .ok (.getfield 30, 3) := by decide +kernel
theorem dX2_next_30 : decode cX2_next 30 = .ok (.iconst 1, 1) := by decide +kernel
theorem dX2_next_31 : decode cX2_next 31 = .ok (.iadd, 1) := by decide +kernel
theorem dX2_next_32 : decode cX2_next 32 = .ok (.putfield 30, 3) := by decide +kernel
theorem dX2_next_35 : decode cX2_next 35 = .ok (.goto (-35), 3) := by decide +kernel
theorem dX2_next_38 : decode cX2_next 38 = .ok (.aload_n 0, 1) := by decide +kernel
theorem dX2_next_39 : decode cX2_next 39 = .ok (.aload_n 0, 1) := by decide +kernel
theorem dX2_next_40 : decode cX2_next 40 = .ok (.getfield 30, 3) := by decide +kernel
theorem dX2_next_43 : decode cX2_next 43 = .ok (.putfield 52, 3) := by decide +kernel
theorem dX2_next_46 : decode cX2_next 46 = .ok (.aload_n 0, 1) := by decide +kernel
theorem dX2_next_47 : decode cX2_next 47 = .ok (.getfield 30, 3) := by decide +kernel
theorem dX2_next_50 : decode cX2_next 50 = .ok (.aload_n 0, 1) := by decide +kernel
theorem dX2_next_51 : decode cX2_next 51 = .ok (.getfield 26, 3) := by decide +kernel
theorem dX2_next_54 : decode cX2_next 54 = .ok (.if_icmp .lt 11, 3) := by decide +kernel
theorem dX2_next_57 : decode cX2_next 57 = .ok (.aload_n 0, 1) := by decide +kernel
theorem dX2_next_58 : decode cX2_next 58 = .ok (.sipush 1000, 3) := by decide +kernel
theorem dX2_next_61 : decode cX2_next 61 = .ok (.putfield 59, 3) := by decide +kernel
theorem dX2_next_64 : decode cX2_next 64 = .ok (.return_, 1) := by decide +kernel
theorem dX2_next_65 : decode cX2_next 65 = .ok (.aload_n 0, 1) := by decide +kernel
theorem dX2_next_66 : decode cX2_next 66 = .ok (.getfield 9, 3) := by decide +kernel
theorem dX2_next_69 : decode cX2_next 69 = .ok (.aload_n 0, 1) := by decide +kernel
theorem dX2_next_70 : decode cX2_next 70 = .ok (.getfield 30, 3) := by decide +kernel
theorem dX2_next_73 : decode cX2_next 73 = .ok (.baload, 1) := by decide +kernel
theorem dX2_next_74 : decode cX2_next 74 = .ok (.invokestatic 80, 3) := by decide +kernel
theorem dX2_next_77 : decode cX2_next 77 = .ok (.ifCond .eq 49, 3) := by decide +kernel
theorem dX2_next_80 : decode cX2_next 80 = .ok (.aload_n 0, 1) := by decide +kernel
theorem dX2_next_81 : decode cX2_next 81 = .ok (.sipush 1001, 3) := by decide +kernel
theorem dX2_next_84 : decode cX2_next 84 = .ok (.putfield 59, 3) := by decide +kernel
theorem dX2_next_87 : decode cX2_next 87 = .ok (.aload_n 0, 1) := by decide +kernel
theorem dX2_next_88 : decode cX2_next 88 = .ok (.getfield 30, 3) := by decide +kernel
theorem dX2_next_91 : decode cX2_next 91 = .ok (.aload_n 0, 1) := by decide +kernel
theorem dX2_next_92 : decode cX2_next 92 = .ok (.getfield 26, 3) := by decide +kernel
theorem dX2_next_95 : decode cX2_next 95 = .ok (.if_icmp .ge 116, 3) := by decide +kernel
theorem dX2_next_98 : decode cX2_next 98 = .ok (.aload_n 0, 1) := by decide +kernel
theorem dX2_next_99 : decode cX2_next 99 = .ok (.getfield 9, 3) := by decide +kernel
theorem dX2_next_102 : decode cX2_next 102 = .ok (.aload_n 0, 1) := by decide +kernel
theorem dX2_next_103 : decode cX2_next 103 = .ok (.getfield 30, 3) := by decide +kernel
theorem dX2_next_106 : decode cX2_next 106 = .ok (.baload, 1) := by decide +kernel
theorem dX2_next_107 : decode cX2_next 107 = .ok (.invokestatic 80, 3) := by decide +kernel
theorem dX2_next_110 : decode cX2_next 110 = .ok (.ifCond .eq 101, 3) := by decide +kernel
theorem dX2_next_113 : decode cX2_next 113 = .ok (.aload_n 0, 1) := by decide +kernel
theorem dX2_next_114 : decode cX2_next 114 = .ok (.dup, 1) := by decide +kernel
theorem dX2_next_115 : decode cX2_next 115 = .ok (.getfield 30, 3) := by decide +kernel
theorem dX2_next_118 : decode cX2_next 118 = .ok (.iconst 1, 1) := by decide +kernel
theorem dX2_next_119 : decode cX2_next 119 = .ok (.iadd, 1) := by decide +kernel
theorem dX2_next_120 : decode cX2_next 120 = .ok (.putfield 30, 3) := by decide +kernel
theorem dX2_next_123 : decode cX2_next 123 = .ok (.goto (-36), 3) := by decide +kernel
theorem dX2_next_126 : decode cX2_next 126 = .ok (.aload_n 0, 1) := by decide +kernel
theorem dX2_next_127 : decode cX2_next 127 = .ok (.getfield 9, 3) := by decide +kernel
theorem dX2_next_130 : decode cX2_next 130 = .ok (.aload_n 0, 1) := by decide +kernel
theorem dX2_next_131 : decode cX2_next 131 = .ok (.getfield 30, 3) := by decide +kernel
theorem dX2_next_134 : decode cX2_next 134 = .ok (.baload, 1) := by decide +kernel
theorem dX2_next_135 : decode cX2_next 135 = .ok (.invokestatic 84, 3) := by decide +kernel
theorem dX2_next_138 : decode cX2_next 138 = .ok (.ifCond .eq 49, 3) := by decide +kernel
theorem dX2_next_141 : decode cX2_next 141 = .ok (.aload_n 0, 1) := by decide +kernel
theorem dX2_next_142 : decode cX2_next 142 = .ok (.sipush 1002, 3) := by decide +kernel
theorem dX2_next_145 : decode cX2_next 145 = .ok (.putfield 59, 3) := by decide +kernel
theorem dX2_next_148 : decode cX2_next 148 = .ok (.aload_n 0, 1) := by decide +kernel
theorem dX2_next_149 : decode cX2_next 149 = .ok (.getfield 30, 3) := by decide +kernel
theorem dX2_next_152 : decode cX2_next 152 = .ok (.aload_n 0, 1) := by decide +kernel
theorem dX2_next_153 : decode cX2_next 153 = .ok (.getfield 26, 3) := by decide +kernel
theorem dX2_next_156 : decode cX2_next 156 = .ok (.if_icmp .ge 55, 3) := by decide +kernel
theorem dX2_next_159 : decode cX2_next 159 = .ok (.aload_n 0, 1) := by decide +kernel
theorem dX2_next_160 : decode cX2_next 160 = .ok (.getfield 9, 3) := by decide +kernel
theorem dX2_next_163 : decode cX2_next 163 = .ok (.aload_n 0, 1) := by decide +kernel
theorem dX2_next_164 : decode cX2_next 164 = .ok (.getfield 30, 3) := by decide +kernel
theorem dX2_next_167 : decode cX2_next 167 = .ok (.baload, 1) := by decide +kernel
theorem dX2_next_168 : decode cX2_next 168 = .ok (.invokestatic 84, 3) := by decide +kernel
theorem dX2_next_171 : decode cX2_next 171 = .ok (.ifCond .eq 40, 3) := by decide +kernel
theorem dX2_next_174 : decode cX2_next 174 = .ok (.aload_n 0, 1) := by decide +kernel
theorem dX2_next_175 : decode cX2_next 175 = .ok (.dup, 1) := by decide +kernel
theorem dX2_next_176 : decode cX2_next 176 = .ok (.getfield 30, 3) := by decide +kernel
theorem dX2_next_179 : decode cX2_next 179 = .ok (.iconst 1, 1) := by decide +kernel
theorem dX2_next_180 : decode cX2_next 180 = .ok (.iadd, 1) := by decide +kernel
theorem dX2_next_181 : decode cX2_next 181 = .ok (.putfield 30, 3) := by decide +kernel
theorem dX2_next_184 : decode cX2_next 184 = .ok (.goto (-36), 3) := by decide +kernel
theorem dX2_next_187 : decode cX2_next 187 = .ok (.aload_n 0, 1) := by decide +kernel
theorem dX2_next_188 : decode cX2_next 188 = .ok (.aload_n 0, 1) := by decide +kernel
theorem dX2_next_189 : decode cX2_next 189 = .ok (.getfield 9, 3) := by decide +kernel
theorem dX2_next_192 : decode cX2_next 192 = .ok (.aload_n 0, 1) := by decide +kernel
theorem dX2_next_193 : decode cX2_next 193 = .ok (.getfield 30, 3) := by decide +kernel
theorem dX2_next_196 : decode cX2_next 196 = .ok (.baload, 1) := by decide +kernel
theorem dX2_next_197 : decode cX2_next 197 = .ok (.putfield 59, 3) := by decide +kernel
theorem dX2_next_200 : decode cX2_next 200 = .ok (.aload_n 0, 1) := by decide +kernel
theorem dX2_next_201 : decode cX2_next 201 = .ok (.dup, 1) := by decide +kernel
theorem dX2_next_202 : decode cX2_next 202 = .ok (.getfield 30, 3) := by decide +kernel
theorem dX2_next_205 : decode cX2_next 205 = .ok (.iconst 1, 1) := by decide +kernel
theorem dX2_next_206 : decode cX2_next 206 = .ok (.iadd, 1) := by decide +kernel
theorem dX2_next_207 : decode cX2_next 207 = .ok (.putfield 30, 3) := by decide +kernel
theorem dX2_next_210 : decode cX2_next 210 = .ok (.return_, 1) := by decide +kernel
theorem dX2_next_211 : decode cX2_next 211 = .ok (.aload_n 0, 1) := by decide +kernel
theorem dX2_next_212 : decode cX2_next 212 = .ok (.getfield 52, 3) := by decide +kernel
theorem dX2_next_215 : decode cX2_next 215 = .ok (.aload_n 0, 1) := by decide +kernel
theorem dX2_next_216 : decode cX2_next 216 = .ok (.getfield 33, 3) := by decide +kernel
theorem dX2_next_219 : decode cX2_next 219 = .ok (.if_icmp .ne 7, 3) := by decide +kernel
theorem dX2_next_222 : decode cX2_next 222 = .ok (.iconst 1, 1) := by decide +kernel
theorem dX2_next_223 : decode cX2_next 223 = .ok (.goto 4, 3) := by decide +kernel
theorem dX2_next_226 : decode cX2_next 226 = .ok (.iconst 0, 1) := by decide +kernel
theorem dX2_next_227 : decode cX2_next 227 = .ok (.istore_n 1, 1) := by decide +kernel
theorem dX2_next_228 : decode cX2_next 228 = .ok (.aload_n 0, 1) := by decide +kernel
theorem dX2_next_229 : decode cX2_next 229 = .ok (.aload_n 0, 1) := by decide +kernel
theorem dX2_next_230 : decode cX2_next 230 = .ok (.getfield 30, 3) := by decide +kernel
theorem dX2_next_233 : decode cX2_next 233 = .ok (.putfield 33, 3) := by decide +kernel
theorem dX2_next_236 : decode cX2_next 236 = .ok (.iload_n 1, 1) := by decide +kernel
theorem dX2_next_237 : decode cX2_next 237 = .ok (.ifCond .eq 10, 3) := by decide +kernel
theorem dX2_next_240 : decode cX2_next 240 = .ok (.aload_n 0, 1) := by decide +kernel
theorem dX2_next_241 : decode cX2_next 241 = .ok (.sipush 1003, 3) := by decide +kernel
theorem dX2_next_244 : decode cX2_next 244 = .ok (.putfield 59, 3) := by decide +kernel
theorem dX2_next_247 : decode cX2_next 247 = .ok (.return_, 1) := by decide +kernel
theorem dX2_isLetter_0 : decode cX2_isLetter 0 = .ok (.iload_n 0, 1) := by decide +kernel
theorem dX2_isLetter_1 : decode cX2_isLetter 1 = .ok (.bipush 97, 2) := by decide +kernel
theorem dX2_isLetter_3 : decode cX2_isLetter 3 = .ok (.if_icmp .lt 13, 3) := by decide +kernel
theorem dX2_isLetter_6 : decode cX2_isLetter 6 = .ok (.iload_n 0, 1) := by decide +kernel
theorem dX2_isLetter_7 : decode cX2_isLetter 7 = .ok (.bipush 122, 2) := by decide +kernel
theorem dX2_isLetter_9 : decode cX2_isLetter 9 = .ok (.if_icmp .gt 7, 3) := by decide +kernel
theorem dX2_isLetter_12 : decode cX2_isLetter 12 = .ok (.iconst 1, 1) := by decide +kernel
theorem dX2_isLetter_13 : decode cX2_isLetter 13 = .ok (.goto 4, 3) := by decide +kernel
theorem dX2_isLetter_16 : decode cX2_isLetter 16 = .ok (.iconst 0, 1) := by decide +kernel
theorem dX2_isLetter_17 : decode cX2_isLetter 17 = .ok (.ireturn, 1) := by decide +kernel
theorem dX2_isDigit_0 : decode cX2_isDigit 0 = .ok (.iload_n 0, 1) := by decide +kernel
theorem dX2_isDigit_1 : decode cX2_isDigit 1 = .ok (.bipush 48, 2) := by decide +kernel
theorem dX2_isDigit_3 : decode cX2_isDigit 3 = .ok (.if_icmp .lt 13, 3) := by decide +kernel
theorem dX2_isDigit_6 : decode cX2_isDigit 6 = .ok (.iload_n 0, 1) := by decide +kernel
theorem dX2_isDigit_7 : decode cX2_isDigit 7 = .ok (.bipush 57, 2) := by decide +kernel
theorem dX2_isDigit_9 : decode cX2_isDigit 9 = .ok (.if_icmp .gt 7, 3) := by decide +kernel
theorem dX2_isDigit_12 : decode cX2_isDigit 12 = .ok (.iconst 1, 1) := by decide +kernel
theorem dX2_isDigit_13 : decode cX2_isDigit 13 = .ok (.goto 4, 3) := by decide +kernel
theorem dX2_isDigit_16 : decode cX2_isDigit 16 = .ok (.iconst 0, 1) := by decide +kernel
theorem dX2_isDigit_17 : decode cX2_isDigit 17 = .ok (.ireturn, 1) := by decide +kernel
theorem dX2_keyRead_0 : decode cX2_keyRead 0 = .ok (.aload_n 0, 1) := by decide +kernel
theorem dX2_keyRead_1 : decode cX2_keyRead 1 = .ok (.getfield 59, 3) := by decide +kernel
theorem dX2_keyRead_4 : decode cX2_keyRead 4 = .ok (.sipush 1001, 3) := by decide +kernel
theorem dX2_keyRead_7 : decode cX2_keyRead 7 = .ok (.if_icmp .eq 5, 3) := by decide +kernel
theorem dX2_keyRead_10 : decode cX2_keyRead 10 = .ok (.iconst (-1), 1) := by decide +kernel
theorem dX2_keyRead_11 : decode cX2_keyRead 11 = .ok (.ireturn, 1) := by decide +kernel
theorem dX2_keyRead_12 : decode cX2_keyRead 12 = .ok (.aload_n 0, 1) := by decide +kernel
theorem dX2_keyRead_13 : decode cX2_keyRead 13 = .ok (.ldc 87, 2) := by decide +kernel
theorem dX2_keyRead_15 : decode cX2_keyRead 15 = .ok (.invokevirtual 89, 3) := by decide +kernel
theorem dX2_keyRead_18 : decode cX2_keyRead 18 = .ok (.ifCond .eq 5, 3) := by decide +kernel
theorem dX2_keyRead_21 : decode cX2_keyRead 21 = .ok (.iconst 0, 1) := by decide +kernel
theorem dX2_keyRead_22 : decode cX2_keyRead 22 = .ok (.ireturn, 1) := by decide +kernel
theorem dX2_keyRead_23 : decode cX2_keyRead 23 = .ok (.aload_n 0, 1) := by decide +kernel
theorem dX2_keyRead_24 : decode cX2_keyRead 24 = .ok (.ldc 93, 2) := by decide +kernel
theorem dX2_keyRead_26 : decode cX2_keyRead 26 = .ok (.invokevirtual 89, 3) := by decide +kernel
theorem dX2_keyRead_29 : decode cX2_keyRead 29 = .ok (.ifCond .eq 5, 3) := by decide +kernel
theorem dX2_keyRead_32 : decode cX2_keyRead 32 = .ok (.iconst 1, 1) := by decide +kernel
theorem dX2_keyRead_33 : decode cX2_keyRead 33 = .ok (.ireturn, 1) := by decide +kernel
theorem dX2_keyRead_34 : decode cX2_keyRead 34 = .ok (.aload_n 0, 1) := by decide +kernel
theorem dX2_keyRead_35 : decode cX2_keyRead 35 = .ok (.ldc 95, 2) := by decide +kernel
theorem dX2_keyRead_37 : decode cX2_keyRead 37 = .ok (.invokevirtual 89, 3) := by decide +kernel
theorem dX2_keyRead_40 : decode cX2_keyRead 40 = .ok (.ifCond .eq 7, 3) := by decide +kernel
theorem dX2_keyRead_43 : decode cX2_keyRead 43 = .ok (.iconst 2, 1) := by decide +kernel
theorem dX2_keyRead_44 : decode cX2_keyRead 44 = .ok (.goto 4, 3) := by decide +kernel
theorem dX2_keyRead_47 : decode cX2_keyRead 47 = .ok (.iconst (-1), 1) := by decide +kernel
theorem dX2_keyRead_48 : decode cX2_keyRead 48 = .ok (.ireturn, 1) := by decide +kernel
theorem dX2_isWord_0 : decode cX2_isWord 0 = .ok (.aload_n 0, 1) := by decide +kernel
theorem dX2_isWord_1 : decode cX2_isWord 1 = .ok (.getfield 30, 3) := by decide +kernel
theorem dX2_isWord_4 : decode cX2_isWord 4 = .ok (.aload_n 0, 1) := by decide +kernel
theorem dX2_isWord_5 : decode cX2_isWord 5 = .ok (.getfield 52, 3) := by decide +kernel
theorem dX2_isWord_8 : decode cX2_isWord 8 = .ok (.isub, 1) := by decide +kernel
theorem dX2_isWord_9 : decode cX2_isWord 9 = .ok (.aload_n 1, 1) := by decide +kernel
theorem dX2_isWord_10 : decode cX2_isWord 10 = .ok (.invokevirtual 97, 3) := by decide +kernel
theorem dX2_isWord_13 : decode cX2_isWord 13 = .ok (.if_icmp .eq 5, 3) := by decide +kernel
theorem dX2_isWord_16 : decode cX2_isWord 16 = .ok (.iconst 0, 1) := by decide +kernel
theorem dX2_isWord_17 : decode cX2_isWord 17 = .ok (.ireturn, 1) := by decide +kernel
theorem dX2_isWord_18 : decode cX2_isWord 18 = .ok (.iconst 0, 1) := by decide +kernel
theorem dX2_isWord_19 : decode cX2_isWord 19 = .ok (.istore_n 2, 1) := by decide +kernel
theorem dX2_isWord_20 : decode cX2_isWord 20 = .ok (.iload_n 2, 1) := by decide +kernel
theorem dX2_isWord_21 : decode cX2_isWord 21 = .ok (.aload_n 1, 1) := by decide +kernel
theorem dX2_isWord_22 : decode cX2_isWord 22 = .ok (.invokevirtual 97, 3) := by decide +kernel
theorem dX2_isWord_25 : decode cX2_isWord 25 = .ok (.if_icmp .ge 30, 3) := by decide +kernel
theorem dX2_isWord_28 : decode cX2_isWord 28 = .ok (.aload_n 0, 1) := by decide +kernel
theorem dX2_isWord_29 : decode cX2_isWord 29 = .ok (.getfield 9, 3) := by decide +kernel
theorem dX2_isWord_32 : decode cX2_isWord 32 = .ok (.aload_n 0, 1) := by decide +kernel
theorem dX2_isWord_33 : decode cX2_isWord 33 = .ok (.getfield 52, 3) := by decide +kernel
theorem dX2_isWord_36 : decode cX2_isWord 36 = .ok (.iload_n 2, 1) := by decide +kernel
theorem dX2_isWord_37 : decode cX2_isWord 37 = .ok (.iadd, 1) := by decide +kernel
theorem dX2_isWord_38 : decode cX2_isWord 38 = .ok (.baload, 1) := by decide +kernel
theorem dX2_isWord_39 : decode cX2_isWord 39 = .ok (.aload_n 1, 1) := by decide +kernel
theorem dX2_isWord_40 : decode cX2_isWord 40 = .ok (.iload_n 2, 1) := by decide +kernel
theorem dX2_isWord_41 : decode cX2_isWord 41 = .ok (.invokevirtual 102, 3) := by decide +kernel
theorem dX2_isWord_44 : decode cX2_isWord 44 = .ok (.if_icmp .eq 5, 3) := by decide +kernel
theorem dX2_isWord_47 : decode cX2_isWord 47 = .ok (.iconst 0, 1) := by decide +kernel
theorem dX2_isWord_48 : decode cX2_isWord 48 = .ok (.ireturn, 1) := by decide +kernel
theorem dX2_isWord_49 : decode cX2_isWord 49 = .ok (.iinc 2 1, 3) := by decide +kernel
theorem dX2_isWord_52 : decode cX2_isWord 52 = .ok (.goto (-32), 3) := by decide +kernel
theorem dX2_isWord_55 : decode cX2_isWord 55 = .ok (.iconst 1, 1) := by decide +kernel
theorem dX2_isWord_56 : decode cX2_isWord 56 = .ok (.ireturn, 1) := by decide +kernel
theorem dX2_takesPiece_0 : decode cX2_takesPiece 0 = .ok (.aload_n 0, 1) := by decide +kernel
theorem dX2_takesPiece_1 : decode cX2_takesPiece 1 = .ok (.getfield 59, 3) := by decide +kernel
theorem dX2_takesPiece_4 : decode cX2_takesPiece 4 = .ok (.lookupswitch 116 #[(33, 54), (40, 85), (1001, 49), (1002, 44)], 44) := by decide +kernel
theorem dX2_takesPiece_48 : decode cX2_takesPiece 48 = .ok (.aload_n 0, 1) := by decide +kernel
theorem dX2_takesPiece_49 : decode cX2_takesPiece 49 = .ok (.invokevirtual 106, 3) := by decide +kernel
theorem dX2_takesPiece_52 : decode cX2_takesPiece 52 = .ok (.ireturn, 1) := by decide +kernel
theorem dX2_takesPiece_53 : decode cX2_takesPiece 53 = .ok (.aload_n 0, 1) := by decide +kernel
theorem dX2_takesPiece_54 : decode cX2_takesPiece 54 = .ok (.invokevirtual 109, 3) := by decide +kernel
theorem dX2_takesPiece_57 : decode cX2_takesPiece 57 = .ok (.ireturn, 1) := by decide +kernel
theorem dX2_takesPiece_58 : decode cX2_takesPiece 58 = .ok (.aload_n 0, 1) := by decide +kernel
theorem dX2_takesPiece_59 : decode cX2_takesPiece 59 = .ok (.dup, 1) := by decide +kernel
theorem dX2_takesPiece_60 : decode cX2_takesPiece 60 = .ok (.getfield 42, 3) := by decide +kernel
theorem dX2_takesPiece_63 : decode cX2_takesPiece 63 = .ok (.iconst 1, 1) := by decide +kernel
theorem dX2_takesPiece_64 : decode cX2_takesPiece 64 = .ok (.iadd, 1) := by decide +kernel
theorem dX2_takesPiece_65 : decode cX2_takesPiece 65 = .ok (.putfield 42, 3) := by decide +kernel
theorem dX2_takesPiece_68 : decode cX2_takesPiece 68 = .ok (.aload_n 0, 1) := by decide +kernel
theorem dX2_takesPiece_69 : decode cX2_takesPiece 69 = .ok (.bipush 33, 2) := by decide +kernel
theorem dX2_takesPiece_71 : decode cX2_takesPiece 71 = .ok (.invokevirtual 112, 3) := by decide +kernel
theorem dX2_takesPiece_74 : decode cX2_takesPiece 74 = .ok (.aload_n 0, 1) := by decide +kernel
theorem dX2_takesPiece_75 : decode cX2_takesPiece 75 = .ok (.getfield 42, 3) := by decide +kernel
theorem dX2_takesPiece_78 : decode cX2_takesPiece 78 = .ok (.bipush 8, 2) := by decide +kernel
theorem dX2_takesPiece_80 : decode cX2_takesPiece 80 = .ok (.if_icmp .gt 7, 3) := by decide +kernel
theorem dX2_takesPiece_83 : decode cX2_takesPiece 83 = .ok (.iconst 1, 1) := by decide +kernel
theorem dX2_takesPiece_84 : decode cX2_takesPiece 84 = .ok (.goto 4, 3) := by decide +kernel
theorem dX2_takesPiece_87 : decode cX2_takesPiece 87 = .ok (.iconst 0, 1) := by decide +kernel
theorem dX2_takesPiece_88 : decode cX2_takesPiece 88 = .ok (.ireturn, 1) := by decide +kernel
theorem dX2_takesPiece_89 : decode cX2_takesPiece 89 = .ok (.aload_n 0, 1) := by decide +kernel
theorem dX2_takesPiece_90 : decode cX2_takesPiece 90 = .ok (.dup, 1) := by decide +kernel
theorem dX2_takesPiece_91 : decode cX2_takesPiece 91 = .ok (.getfield 39, 3) := by decide +kernel
theorem dX2_takesPiece_94 : decode cX2_takesPiece 94 = .ok (.iconst 1, 1) := by decide +kernel
theorem dX2_takesPiece_95 : decode cX2_takesPiece 95 = .ok (.iadd, 1) := by decide +kernel
theorem dX2_takesPiece_96 : decode cX2_takesPiece 96 = .ok (.putfield 39, 3) := by decide +kernel
theorem dX2_takesPiece_99 : decode cX2_takesPiece 99 = .ok (.aload_n 0, 1) := by decide +kernel
theorem dX2_takesPiece_100 : decode cX2_takesPiece 100 = .ok (.bipush 40, 2) := by decide +kernel
theorem dX2_takesPiece_102 : decode cX2_takesPiece 102 = .ok (.invokevirtual 112, 3) := by decide +kernel
theorem dX2_takesPiece_105 : decode cX2_takesPiece 105 = .ok (.aload_n 0, 1) := by decide +kernel
theorem dX2_takesPiece_106 : decode cX2_takesPiece 106 = .ok (.getfield 39, 3) := by decide +kernel
theorem dX2_takesPiece_109 : decode cX2_takesPiece 109 = .ok (.bipush 8, 2) := by decide +kernel
theorem dX2_takesPiece_111 : decode cX2_takesPiece 111 = .ok (.if_icmp .gt 7, 3) := by decide +kernel
theorem dX2_takesPiece_114 : decode cX2_takesPiece 114 = .ok (.iconst 1, 1) := by decide +kernel
theorem dX2_takesPiece_115 : decode cX2_takesPiece 115 = .ok (.goto 4, 3) := by decide +kernel
theorem dX2_takesPiece_118 : decode cX2_takesPiece 118 = .ok (.iconst 0, 1) := by decide +kernel
theorem dX2_takesPiece_119 : decode cX2_takesPiece 119 = .ok (.ireturn, 1) := by decide +kernel
theorem dX2_takesPiece_120 : decode cX2_takesPiece 120 = .ok (.iconst 0, 1) := by decide +kernel
theorem dX2_takesPiece_121 : decode cX2_takesPiece 121 = .ok (.ireturn, 1) := by decide +kernel
theorem dX2_takesNumber_0 : decode cX2_takesNumber 0 = .ok (.aload_n 0, 1) := by decide +kernel
theorem dX2_takesNumber_1 : decode cX2_takesNumber 1 = .ok (.getfield 30, 3) := by decide +kernel
theorem dX2_takesNumber_4 : decode cX2_takesNumber 4 = .ok (.aload_n 0, 1) := by decide +kernel
theorem dX2_takesNumber_5 : decode cX2_takesNumber 5 = .ok (.getfield 52, 3) := by decide +kernel
theorem dX2_takesNumber_8 : decode cX2_takesNumber 8 = .ok (.isub, 1) := by decide +kernel
theorem dX2_takesNumber_9 : decode cX2_takesNumber 9 = .ok (.iconst 4, 1) := by decide +kernel
theorem dX2_takesNumber_10 : decode cX2_takesNumber 10 = .ok (.if_icmp .le 5, 3) := by decide +kernel
theorem dX2_takesNumber_13 : decode cX2_takesNumber 13 = .ok (.iconst 0, 1) := by decide +kernel
theorem dX2_takesNumber_14 : decode cX2_takesNumber 14 = .ok (.ireturn, 1) := by decide +kernel
theorem dX2_takesNumber_15 : decode cX2_takesNumber 15 = .ok (.iconst 0, 1) := by decide +kernel
theorem dX2_takesNumber_16 : decode cX2_takesNumber 16 = .ok (.istore_n 1, 1) := by decide +kernel
theorem dX2_takesNumber_17 : decode cX2_takesNumber 17 = .ok (.aload_n 0, 1) := by decide +kernel
theorem dX2_takesNumber_18 : decode cX2_takesNumber 18 = .ok (.getfield 52, 3) := by decide +kernel
theorem dX2_takesNumber_21 : decode cX2_takesNumber 21 = .ok (.istore_n 2, 1) := by decide +kernel
theorem dX2_takesNumber_22 : decode cX2_takesNumber 22 = .ok (.iload_n 2, 1) := by decide +kernel
theorem dX2_takesNumber_23 : decode cX2_takesNumber 23 = .ok (.aload_n 0, 1) := by decide +kernel
theorem dX2_takesNumber_24 : decode cX2_takesNumber 24 = .ok (.getfield 30, 3) := by decide +kernel
theorem dX2_takesNumber_27 : decode cX2_takesNumber 27 = .ok (.if_icmp .ge 24, 3) := by decide +kernel
theorem dX2_takesNumber_30 : decode cX2_takesNumber 30 = .ok (.iload_n 1, 1) := by decide +kernel
theorem dX2_takesNumber_31 : decode cX2_takesNumber 31 = .ok (.bipush 10, 2) := by decide +kernel
theorem dX2_takesNumber_33 : decode cX2_takesNumber 33 = .ok (.imul, 1) := by decide +kernel
theorem dX2_takesNumber_34 : decode cX2_takesNumber 34 = .ok (.aload_n 0, 1) := by decide +kernel
theorem dX2_takesNumber_35 : decode cX2_takesNumber 35 = .ok (.getfield 9, 3) := by decide +kernel
theorem dX2_takesNumber_38 : decode cX2_takesNumber 38 = .ok (.iload_n 2, 1) := by decide +kernel
theorem dX2_takesNumber_39 : decode cX2_takesNumber 39 = .ok (.baload, 1) := by decide +kernel
theorem dX2_takesNumber_40 : decode cX2_takesNumber 40 = .ok (.iadd, 1) := by decide +kernel
theorem dX2_takesNumber_41 : decode cX2_takesNumber 41 = .ok (.bipush 48, 2) := by decide +kernel
theorem dX2_takesNumber_43 : decode cX2_takesNumber 43 = .ok (.isub, 1) := by decide +kernel
theorem dX2_takesNumber_44 : decode cX2_takesNumber 44 = .ok (.istore_n 1, 1) := by decide +kernel
theorem dX2_takesNumber_45 : decode cX2_takesNumber 45 = .ok (.iinc 2 1, 3) := by decide +kernel
theorem dX2_takesNumber_48 : decode cX2_takesNumber 48 = .ok (.goto (-26), 3) := by decide +kernel
theorem dX2_takesNumber_51 : decode cX2_takesNumber 51 = .ok (.aload_n 0, 1) := by decide +kernel
theorem dX2_takesNumber_52 : decode cX2_takesNumber 52 = .ok (.getfield 18, 3) := by decide +kernel
theorem dX2_takesNumber_55 : decode cX2_takesNumber 55 = .ok (.iload_n 1, 1) := by decide +kernel
theorem dX2_takesNumber_56 : decode cX2_takesNumber 56 = .ok (.invokevirtual 115, 3) := by decide +kernel
theorem dX2_takesNumber_59 : decode cX2_takesNumber 59 = .ok (.aload_n 0, 1) := by decide +kernel
theorem dX2_takesNumber_60 : decode cX2_takesNumber 60 = .ok (.invokevirtual 118, 3) := by decide +kernel
theorem dX2_takesNumber_63 : decode cX2_takesNumber 63 = .ok (.iconst 1, 1) := by decide +kernel
theorem dX2_takesNumber_64 : decode cX2_takesNumber 64 = .ok (.ireturn, 1) := by decide +kernel
theorem dX2_takesName_0 : decode cX2_takesName 0 = .ok (.aload_n 0, 1) := by decide +kernel
theorem dX2_takesName_1 : decode cX2_takesName 1 = .ok (.getfield 30, 3) := by decide +kernel
theorem dX2_takesName_4 : decode cX2_takesName 4 = .ok (.aload_n 0, 1) := by decide +kernel
theorem dX2_takesName_5 : decode cX2_takesName 5 = .ok (.getfield 52, 3) := by decide +kernel
theorem dX2_takesName_8 : decode cX2_takesName 8 = .ok (.isub, 1) := by decide +kernel
theorem dX2_takesName_9 : decode cX2_takesName 9 = .ok (.iconst 1, 1) := by decide +kernel
theorem dX2_takesName_10 : decode cX2_takesName 10 = .ok (.if_icmp .ne 29, 3) := by decide +kernel
theorem dX2_takesName_13 : decode cX2_takesName 13 = .ok (.aload_n 0, 1) := by decide +kernel
theorem dX2_takesName_14 : decode cX2_takesName 14 = .ok (.getfield 18, 3) := by decide +kernel
theorem dX2_takesName_17 : decode cX2_takesName 17 = .ok (.getfield 121, 3) := by decide +kernel
theorem dX2_takesName_20 : decode cX2_takesName 20 = .ok (.invokestatic 124, 3) := by decide +kernel
theorem dX2_takesName_23 : decode cX2_takesName 23 = .ok (.aload_n 0, 1) := by decide +kernel
theorem dX2_takesName_24 : decode cX2_takesName 24 = .ok (.getfield 9, 3) := by decide +kernel
theorem dX2_takesName_27 : decode cX2_takesName 27 = .ok (.aload_n 0, 1) := by decide +kernel
theorem dX2_takesName_28 : decode cX2_takesName 28 = .ok (.getfield 52, 3) := by decide +kernel
theorem dX2_takesName_31 : decode cX2_takesName 31 = .ok (.baload, 1) := by decide +kernel
theorem dX2_takesName_32 : decode cX2_takesName 32 = .ok (.i2c, 1) := by decide +kernel
theorem dX2_takesName_33 : decode cX2_takesName 33 = .ok (.invokevirtual 128, 3) := by decide +kernel
theorem dX2_takesName_36 : decode cX2_takesName 36 = .ok (.goto 4, 3) := by decide +kernel
theorem dX2_takesName_39 : decode cX2_takesName 39 = .ok (.iconst (-1), 1) := by decide +kernel
theorem dX2_takesName_40 : decode cX2_takesName 40 = .ok (.istore_n 1, 1) := by decide +kernel
theorem dX2_takesName_41 : decode cX2_takesName 41 = .ok (.iload_n 1, 1) := by decide +kernel
theorem dX2_takesName_42 : decode cX2_takesName 42 = .ok (.ifCond .ge 5, 3) := by decide +kernel
theorem dX2_takesName_45 : decode cX2_takesName 45 = .ok (.iconst 0, 1) := by decide +kernel
theorem dX2_takesName_46 : decode cX2_takesName 46 = .ok (.ireturn, 1) := by decide +kernel
theorem dX2_takesName_47 : decode cX2_takesName 47 = .ok (.aload_n 0, 1) := by decide +kernel
theorem dX2_takesName_48 : decode cX2_takesName 48 = .ok (.getfield 18, 3) := by decide +kernel
theorem dX2_takesName_51 : decode cX2_takesName 51 = .ok (.iconst (-1), 1) := by decide +kernel
theorem dX2_takesName_52 : decode cX2_takesName 52 = .ok (.iload_n 1, 1) := by decide +kernel
theorem dX2_takesName_53 : decode cX2_takesName 53 = .ok (.isub, 1) := by decide +kernel
theorem dX2_takesName_54 : decode cX2_takesName 54 = .ok (.invokevirtual 115, 3) := by decide +kernel
theorem dX2_takesName_57 : decode cX2_takesName 57 = .ok (.aload_n 0, 1) := by decide +kernel
theorem dX2_takesName_58 : decode cX2_takesName 58 = .ok (.invokevirtual 118, 3) := by decide +kernel
theorem dX2_takesName_61 : decode cX2_takesName 61 = .ok (.iconst 1, 1) := by decide +kernel
theorem dX2_takesName_62 : decode cX2_takesName 62 = .ok (.ireturn, 1) := by decide +kernel
theorem dX2_namesOf_0 : decode cX2_namesOf 0 = .ok (.iload_n 0, 1) := by decide +kernel
theorem dX2_namesOf_1 : decode cX2_namesOf 1 = .ok (.lookupswitch 33 #[(0, 27), (1, 30)], 27) := by decide +kernel
theorem dX2_namesOf_28 : decode cX2_namesOf 28 = .ok (.ldc 131, 2) := by decide +kernel
theorem dX2_namesOf_30 : decode cX2_namesOf 30 = .ok (.areturn, 1) := by decide +kernel
theorem dX2_namesOf_31 : decode cX2_namesOf 31 = .ok (.ldc 133, 2) := by decide +kernel
theorem dX2_namesOf_33 : decode cX2_namesOf 33 = .ok (.areturn, 1) := by decide +kernel
theorem dX2_namesOf_34 : decode cX2_namesOf 34 = .ok (.ldc 135, 2) := by decide +kernel
theorem dX2_namesOf_36 : decode cX2_namesOf 36 = .ok (.areturn, 1) := by decide +kernel
theorem dX2_takesSign_0 : decode cX2_takesSign 0 = .ok (.aload_n 0, 1) := by decide +kernel
theorem dX2_takesSign_1 : decode cX2_takesSign 1 = .ok (.getfield 59, 3) := by decide +kernel
theorem dX2_takesSign_4 : decode cX2_takesSign 4 = .ok (.bipush 41, 2) := by decide +kernel
theorem dX2_takesSign_6 : decode cX2_takesSign 6 = .ok (.if_icmp .ne 8, 3) := by decide +kernel
theorem dX2_takesSign_9 : decode cX2_takesSign 9 = .ok (.aload_n 0, 1) := by decide +kernel
theorem dX2_takesSign_10 : decode cX2_takesSign 10 = .ok (.invokevirtual 137, 3) := by decide +kernel
theorem dX2_takesSign_13 : decode cX2_takesSign 13 = .ok (.ireturn, 1) := by decide +kernel
theorem dX2_takesSign_14 : decode cX2_takesSign 14 = .ok (.aload_n 0, 1) := by decide +kernel
theorem dX2_takesSign_15 : decode cX2_takesSign 15 = .ok (.getfield 59, 3) := by decide +kernel
theorem dX2_takesSign_18 : decode cX2_takesSign 18 = .ok (.invokestatic 73, 3) := by decide +kernel
theorem dX2_takesSign_21 : decode cX2_takesSign 21 = .ok (.istore_n 1, 1) := by decide +kernel
theorem dX2_takesSign_22 : decode cX2_takesSign 22 = .ok (.iload_n 1, 1) := by decide +kernel
theorem dX2_takesSign_23 : decode cX2_takesSign 23 = .ok (.ifCond .ne 5, 3) := by decide +kernel
theorem dX2_takesSign_26 : decode cX2_takesSign 26 = .ok (.iconst 0, 1) := by decide +kernel
theorem dX2_takesSign_27 : decode cX2_takesSign 27 = .ok (.ireturn, 1) := by decide +kernel
theorem dX2_takesSign_28 : decode cX2_takesSign 28 = .ok (.aload_n 0, 1) := by decide +kernel
theorem dX2_takesSign_29 : decode cX2_takesSign 29 = .ok (.iload_n 1, 1) := by decide +kernel
theorem dX2_takesSign_30 : decode cX2_takesSign 30 = .ok (.iconst 3, 1) := by decide +kernel
theorem dX2_takesSign_31 : decode cX2_takesSign 31 = .ok (.if_icmp .ne 7, 3) := by decide +kernel
theorem dX2_takesSign_34 : decode cX2_takesSign 34 = .ok (.iconst 3, 1) := by decide +kernel
theorem dX2_takesSign_35 : decode cX2_takesSign 35 = .ok (.goto 6, 3) := by decide +kernel
theorem dX2_takesSign_38 : decode cX2_takesSign 38 = .ok (.iload_n 1, 1) := by decide +kernel
theorem dX2_takesSign_39 : decode cX2_takesSign 39 = .ok (.iconst 1, 1) := by decide +kernel
theorem dX2_takesSign_40 : decode cX2_takesSign 40 = .ok (.isub, 1) := by decide +kernel
theorem dX2_takesSign_41 : decode cX2_takesSign 41 = .ok (.invokevirtual 77, 3) := by decide +kernel
theorem dX2_takesSign_44 : decode cX2_takesSign 44 = .ok (.iload_n 1, 1) := by decide +kernel
theorem dX2_takesSign_45 : decode cX2_takesSign 45 = .ok (.iconst 3, 1) := by decide +kernel
theorem dX2_takesSign_46 : decode cX2_takesSign 46 = .ok (.if_icmp .ne 13, 3) := by decide +kernel
theorem dX2_takesSign_49 : decode cX2_takesSign 49 = .ok (.aload_n 0, 1) := by decide +kernel
theorem dX2_takesSign_50 : decode cX2_takesSign 50 = .ok (.invokevirtual 140, 3) := by decide +kernel
theorem dX2_takesSign_53 : decode cX2_takesSign 53 = .ok (.iconst 3, 1) := by decide +kernel
theorem dX2_takesSign_54 : decode cX2_takesSign 54 = .ok (.if_icmp .ne 5, 3) := by decide +kernel
theorem dX2_takesSign_57 : decode cX2_takesSign 57 = .ok (.iconst 0, 1) := by decide +kernel
theorem dX2_takesSign_58 : decode cX2_takesSign 58 = .ok (.ireturn, 1) := by decide +kernel
theorem dX2_takesSign_59 : decode cX2_takesSign 59 = .ok (.aload_n 0, 1) := by decide +kernel
theorem dX2_takesSign_60 : decode cX2_takesSign 60 = .ok (.aload_n 0, 1) := by decide +kernel
theorem dX2_takesSign_61 : decode cX2_takesSign 61 = .ok (.getfield 59, 3) := by decide +kernel
theorem dX2_takesSign_64 : decode cX2_takesSign 64 = .ok (.invokevirtual 112, 3) := by decide +kernel
theorem dX2_takesSign_67 : decode cX2_takesSign 67 = .ok (.iconst 1, 1) := by decide +kernel
theorem dX2_takesSign_68 : decode cX2_takesSign 68 = .ok (.ireturn, 1) := by decide +kernel
theorem dX2_closes_0 : decode cX2_closes 0 = .ok (.aload_n 0, 1) := by decide +kernel
theorem dX2_closes_1 : decode cX2_closes 1 = .ok (.getfield 39, 3) := by decide +kernel
theorem dX2_closes_4 : decode cX2_closes 4 = .ok (.ifCond .ne 5, 3) := by decide +kernel
theorem dX2_closes_7 : decode cX2_closes 7 = .ok (.iconst 0, 1) := by decide +kernel
theorem dX2_closes_8 : decode cX2_closes 8 = .ok (.ireturn, 1) := by decide +kernel
theorem dX2_closes_9 : decode cX2_closes 9 = .ok (.aload_n 0, 1) := by decide +kernel
theorem dX2_closes_10 : decode cX2_closes 10 = .ok (.iconst 0, 1) := by decide +kernel
theorem dX2_closes_11 : decode cX2_closes 11 = .ok (.invokevirtual 77, 3) := by decide +kernel
theorem dX2_closes_14 : decode cX2_closes 14 = .ok (.aload_n 0, 1) := by decide +kernel
theorem dX2_closes_15 : decode cX2_closes 15 = .ok (.getfield 36, 3) := by decide +kernel
theorem dX2_closes_18 : decode cX2_closes 18 = .ok (.ifCond .le 13, 3) := by decide +kernel
theorem dX2_closes_21 : decode cX2_closes 21 = .ok (.aload_n 0, 1) := by decide +kernel
theorem dX2_closes_22 : decode cX2_closes 22 = .ok (.dup, 1) := by decide +kernel
theorem dX2_closes_23 : decode cX2_closes 23 = .ok (.getfield 36, 3) := by decide +kernel
theorem dX2_closes_26 : decode cX2_closes 26 = .ok (.iconst 1, 1) := by decide +kernel
theorem dX2_closes_27 : decode cX2_closes 27 = .ok (.isub, 1) := by decide +kernel
theorem dX2_closes_28 : decode cX2_closes 28 = .ok (.putfield 36, 3) := by decide +kernel
theorem dX2_closes_31 : decode cX2_closes 31 = .ok (.aload_n 0, 1) := by decide +kernel
theorem dX2_closes_32 : decode cX2_closes 32 = .ok (.dup, 1) := by decide +kernel
theorem dX2_closes_33 : decode cX2_closes 33 = .ok (.getfield 39, 3) := by decide +kernel
theorem dX2_closes_36 : decode cX2_closes 36 = .ok (.iconst 1, 1) := by decide +kernel
theorem dX2_closes_37 : decode cX2_closes 37 = .ok (.isub, 1) := by decide +kernel
theorem dX2_closes_38 : decode cX2_closes 38 = .ok (.putfield 39, 3) := by decide +kernel
theorem dX2_closes_41 : decode cX2_closes 41 = .ok (.aload_n 0, 1) := by decide +kernel
theorem dX2_closes_42 : decode cX2_closes 42 = .ok (.invokevirtual 118, 3) := by decide +kernel
theorem dX2_closes_45 : decode cX2_closes 45 = .ok (.iconst 1, 1) := by decide +kernel
theorem dX2_closes_46 : decode cX2_closes 46 = .ok (.ireturn, 1) := by decide +kernel
theorem dX2_push_0 : decode cX2_push 0 = .ok (.aload_n 0, 1) := by decide +kernel
theorem dX2_push_1 : decode cX2_push 1 = .ok (.getfield 36, 3) := by decide +kernel
theorem dX2_push_4 : decode cX2_push 4 = .ok (.bipush 96, 2) := by decide +kernel
theorem dX2_push_6 : decode cX2_push 6 = .ok (.if_icmp .ge 23, 3) := by decide +kernel
theorem dX2_push_9 : decode cX2_push 9 = .ok (.aload_n 0, 1) := by decide +kernel
theorem dX2_push_10 : decode cX2_push 10 = .ok (.getfield 22, 3) := by decide +kernel
theorem dX2_push_13 : decode cX2_push 13 = .ok (.aload_n 0, 1) := by decide +kernel
theorem dX2_push_14 : decode cX2_push 14 = .ok (.getfield 36, 3) := by decide +kernel
theorem dX2_push_17 : decode cX2_push 17 = .ok (.iload_n 1, 1) := by decide +kernel
theorem dX2_push_18 : decode cX2_push 18 = .ok (.iastore, 1) := by decide +kernel
theorem dX2_push_19 : decode cX2_push 19 = .ok (.aload_n 0, 1) := by decide +kernel
theorem dX2_push_20 : decode cX2_push 20 = .ok (.dup, 1) := by decide +kernel
theorem dX2_push_21 : decode cX2_push 21 = .ok (.getfield 36, 3) := by decide +kernel
theorem dX2_push_24 : decode cX2_push 24 = .ok (.iconst 1, 1) := by decide +kernel
theorem dX2_push_25 : decode cX2_push 25 = .ok (.iadd, 1) := by decide +kernel
theorem dX2_push_26 : decode cX2_push 26 = .ok (.putfield 36, 3) := by decide +kernel
theorem dX2_push_29 : decode cX2_push 29 = .ok (.return_, 1) := by decide +kernel
theorem dX2_drop_0 : decode cX2_drop 0 = .ok (.aload_n 0, 1) := by decide +kernel
theorem dX2_drop_1 : decode cX2_drop 1 = .ok (.getfield 36, 3) := by decide +kernel
theorem dX2_drop_4 : decode cX2_drop 4 = .ok (.ifCond .le 41, 3) := by decide +kernel
theorem dX2_drop_7 : decode cX2_drop 7 = .ok (.aload_n 0, 1) := by decide +kernel
theorem dX2_drop_8 : decode cX2_drop 8 = .ok (.invokevirtual 140, 3) := by decide +kernel
theorem dX2_drop_11 : decode cX2_drop 11 = .ok (.iload_n 1, 1) := by decide +kernel
theorem dX2_drop_12 : decode cX2_drop 12 = .ok (.if_icmp .le 33, 3) := by decide +kernel
theorem dX2_drop_15 : decode cX2_drop 15 = .ok (.aload_n 0, 1) := by decide +kernel
theorem dX2_drop_16 : decode cX2_drop 16 = .ok (.dup, 1) := by decide +kernel
theorem dX2_drop_17 : decode cX2_drop 17 = .ok (.getfield 36, 3) := by decide +kernel
theorem dX2_drop_20 : decode cX2_drop 20 = .ok (.iconst 1, 1) := by decide +kernel
theorem dX2_drop_21 : decode cX2_drop 21 = .ok (.isub, 1) := by decide +kernel
theorem dX2_drop_22 : decode cX2_drop 22 = .ok (.putfield 36, 3) := by decide +kernel
theorem dX2_drop_25 : decode cX2_drop 25 = .ok (.aload_n 0, 1) := by decide +kernel
theorem dX2_drop_26 : decode cX2_drop 26 = .ok (.getfield 18, 3) := by decide +kernel
theorem dX2_drop_29 : decode cX2_drop 29 = .ok (.aload_n 0, 1) := by decide +kernel
theorem dX2_drop_30 : decode cX2_drop 30 = .ok (.getfield 22, 3) := by decide +kernel
theorem dX2_drop_33 : decode cX2_drop 33 = .ok (.aload_n 0, 1) := by decide +kernel
theorem dX2_drop_34 : decode cX2_drop 34 = .ok (.getfield 36, 3) := by decide +kernel
theorem dX2_drop_37 : decode cX2_drop 37 = .ok (.iaload, 1) := by decide +kernel
theorem dX2_drop_38 : decode cX2_drop 38 = .ok (.ineg, 1) := by decide +kernel
theorem dX2_drop_39 : decode cX2_drop 39 = .ok (.invokevirtual 143, 3) := by decide +kernel
theorem dX2_drop_42 : decode cX2_drop 42 = .ok (.goto (-42), 3) := by decide +kernel
theorem dX2_drop_45 : decode cX2_drop 45 = .ok (.return_, 1) := by decide +kernel
theorem dX2_dropNots_0 : decode cX2_dropNots 0 = .ok (.aload_n 0, 1) := by decide +kernel
theorem dX2_dropNots_1 : decode cX2_dropNots 1 = .ok (.getfield 36, 3) := by decide +kernel
theorem dX2_dropNots_4 : decode cX2_dropNots 4 = .ok (.ifCond .le 51, 3) := by decide +kernel
theorem dX2_dropNots_7 : decode cX2_dropNots 7 = .ok (.aload_n 0, 1) := by decide +kernel
theorem dX2_dropNots_8 : decode cX2_dropNots 8 = .ok (.getfield 22, 3) := by decide +kernel
theorem dX2_dropNots_11 : decode cX2_dropNots 11 = .ok (.aload_n 0, 1) := by decide +kernel
theorem dX2_dropNots_12 : decode cX2_dropNots 12 = .ok (.getfield 36, 3) := by decide +kernel
theorem dX2_dropNots_15 : decode cX2_dropNots 15 = .ok (.iconst 1, 1) := by decide +kernel
theorem dX2_dropNots_16 : decode cX2_dropNots 16 = .ok (.isub, 1) := by decide +kernel
theorem dX2_dropNots_17 : decode cX2_dropNots 17 = .ok (.iaload, 1) := by decide +kernel
theorem dX2_dropNots_18 : decode cX2_dropNots 18 = .ok (.bipush 33, 2) := by decide +kernel
theorem dX2_dropNots_20 : decode cX2_dropNots 20 = .ok (.if_icmp .ne 35, 3) := by decide +kernel
theorem dX2_dropNots_23 : decode cX2_dropNots 23 = .ok (.aload_n 0, 1) := by decide +kernel
theorem dX2_dropNots_24 : decode cX2_dropNots 24 = .ok (.dup, 1) := by decide +kernel
theorem dX2_dropNots_25 : decode cX2_dropNots 25 = .ok (.getfield 36, 3) := by decide +kernel
theorem dX2_dropNots_28 : decode cX2_dropNots 28 = .ok (.iconst 1, 1) := by decide +kernel
theorem dX2_dropNots_29 : decode cX2_dropNots 29 = .ok (.isub, 1) := by decide +kernel
theorem dX2_dropNots_30 : decode cX2_dropNots 30 = .ok (.putfield 36, 3) := by decide +kernel
theorem dX2_dropNots_33 : decode cX2_dropNots 33 = .ok (.aload_n 0, 1) := by decide +kernel
theorem dX2_dropNots_34 : decode cX2_dropNots 34 = .ok (.dup, 1) := by decide +kernel
theorem dX2_dropNots_35 : decode cX2_dropNots 35 = .ok (.getfield 42, 3) := by decide +kernel
theorem dX2_dropNots_38 : decode cX2_dropNots 38 = .ok (.iconst 1, 1) := by decide +kernel
theorem dX2_dropNots_39 : decode cX2_dropNots 39 = .ok (.isub, 1) := by decide +kernel
theorem dX2_dropNots_40 : decode cX2_dropNots 40 = .ok (.putfield 42, 3) := by decide +kernel
theorem dX2_dropNots_43 : decode cX2_dropNots 43 = .ok (.aload_n 0, 1) := by decide +kernel
theorem dX2_dropNots_44 : decode cX2_dropNots 44 = .ok (.getfield 18, 3) := by decide +kernel
theorem dX2_dropNots_47 : decode cX2_dropNots 47 = .ok (.bipush (-33), 2) := by decide +kernel
theorem dX2_dropNots_49 : decode cX2_dropNots 49 = .ok (.invokevirtual 143, 3) := by decide +kernel
theorem dX2_dropNots_52 : decode cX2_dropNots 52 = .ok (.goto (-52), 3) := by decide +kernel
theorem dX2_dropNots_55 : decode cX2_dropNots 55 = .ok (.return_, 1) := by decide +kernel
theorem dX2_topLevel_0 : decode cX2_topLevel 0 = .ok (.aload_n 0, 1) := by decide +kernel
theorem dX2_topLevel_1 : decode cX2_topLevel 1 = .ok (.getfield 36, 3) := by decide +kernel
theorem dX2_topLevel_4 : decode cX2_topLevel 4 = .ok (.ifCond .le 20, 3) := by decide +kernel
theorem dX2_topLevel_7 : decode cX2_topLevel 7 = .ok (.aload_n 0, 1) := by decide +kernel
theorem dX2_topLevel_8 : decode cX2_topLevel 8 = .ok (.getfield 22, 3) := by decide +kernel
theorem dX2_topLevel_11 : decode cX2_topLevel 11 = .ok (.aload_n 0, 1) := by decide +kernel
theorem dX2_topLevel_12 : decode cX2_topLevel 12 = .ok (.getfield 36, 3) := by decide +kernel
theorem dX2_topLevel_15 : decode cX2_topLevel 15 = .ok (.iconst 1, 1) := by decide +kernel
theorem dX2_topLevel_16 : decode cX2_topLevel 16 = .ok (.isub, 1) := by decide +kernel
theorem dX2_topLevel_17 : decode cX2_topLevel 17 = .ok (.iaload, 1) := by decide +kernel
theorem dX2_topLevel_18 : decode cX2_topLevel 18 = .ok (.invokestatic 73, 3) := by decide +kernel
theorem dX2_topLevel_21 : decode cX2_topLevel 21 = .ok (.goto 4, 3) := by decide +kernel
theorem dX2_topLevel_24 : decode cX2_topLevel 24 = .ok (.iconst 0, 1) := by decide +kernel
