theorem dX7_passesBy_12 : decode cX7_passesBy 12 = .ok (.bipush 6, 2) := by decide +kernel
theorem dX7_passesBy_14 : decode cX7_passesBy 14 = .ok (.irem, 1) := by decide +kernel
theorem dX7_passesBy_15 : decode cX7_passesBy 15 = .ok (.istore_n 2, 1) := by decide +kernel
theorem dX7_passesBy_16 : decode cX7_passesBy 16 = .ok (.iconst 0, 1) := by decide +kernel
theorem dX7_passesBy_17 : decode cX7_passesBy 17 = .ok (.istore_n 3, 1) := by decide +kernel
theorem dX7_passesBy_18 : decode cX7_passesBy 18 = .ok (.iload_n 3, 1) := by decide +kernel
theorem dX7_passesBy_19 : decode cX7_passesBy 19 = .ok (.aload_n 0, 1) := by decide +kernel
theorem dX7_passesBy_20 : decode cX7_passesBy 20 = .ok (.getfield 9, 3) := by decide +kernel
theorem dX7_passesBy_23 : decode cX7_passesBy 23 = .ok (.iconst 1, 1) := by decide +kernel
theorem dX7_passesBy_24 : decode cX7_passesBy 24 = .ok (.iaload, 1) := by decide +kernel
theorem dX7_passesBy_25 : decode cX7_passesBy 25 = .ok (.if_icmp .ge 57, 3) := by decide +kernel
theorem dX7_passesBy_28 : decode cX7_passesBy 28 = .ok (.aload_n 0, 1) := by decide +kernel
theorem dX7_passesBy_29 : decode cX7_passesBy 29 = .ok (.getfield 9, 3) := by decide +kernel
theorem dX7_passesBy_32 : decode cX7_passesBy 32 = .ok (.bipush 7, 2) := by decide +kernel
theorem dX7_passesBy_34 : decode cX7_passesBy 34 = .ok (.iload_n 2, 1) := by decide +kernel
theorem dX7_passesBy_35 : decode cX7_passesBy 35 = .ok (.iadd, 1) := by decide +kernel
theorem dX7_passesBy_36 : decode cX7_passesBy 36 = .ok (.iaload, 1) := by decide +kernel
theorem dX7_passesBy_37 : decode cX7_passesBy 37 = .ok (.ifCond .eq 45, 3) := by decide +kernel
theorem dX7_passesBy_40 : decode cX7_passesBy 40 = .ok (.aload_n 0, 1) := by decide +kernel
theorem dX7_passesBy_41 : decode cX7_passesBy 41 = .ok (.iload_n 3, 1) := by decide +kernel
theorem dX7_passesBy_42 : decode cX7_passesBy 42 = .ok (.iconst 4, 1) := by decide +kernel
theorem dX7_passesBy_43 : decode cX7_passesBy 43 = .ok (.iload_n 2, 1) := by decide +kernel
theorem dX7_passesBy_44 : decode cX7_passesBy 44 = .ok (.iadd, 1) := by decide +kernel
theorem dX7_passesBy_45 : decode cX7_passesBy 45 = .ok (.aload_n 0, 1) := by decide +kernel
theorem dX7_passesBy_46 : decode cX7_passesBy 46 = .ok (.iload_n 3, 1) := by decide +kernel
theorem dX7_passesBy_47 : decode cX7_passesBy 47 = .ok (.iconst 1, 1) := by decide +kernel
theorem dX7_passesBy_48 : decode cX7_passesBy 48 = .ok (.invokevirtual 79, 3) := by decide +kernel
theorem dX7_passesBy_51 : decode cX7_passesBy 51 = .ok (.iload_n 1, 1) := by decide +kernel
theorem dX7_passesBy_52 : decode cX7_passesBy 52 = .ok (.if_icmp .ne 15, 3) := by decide +kernel
theorem dX7_passesBy_55 : decode cX7_passesBy 55 = .ok (.aload_n 0, 1) := by decide +kernel
theorem dX7_passesBy_56 : decode cX7_passesBy 56 = .ok (.getfield 9, 3) := by decide +kernel
theorem dX7_passesBy_59 : decode cX7_passesBy 59 = .ok (.bipush 7, 2) := by decide +kernel
theorem dX7_passesBy_61 : decode cX7_passesBy 61 = .ok (.iload_n 2, 1) := by decide +kernel
theorem dX7_passesBy_62 : decode cX7_passesBy 62 = .ok (.iadd, 1) := by decide +kernel
theorem dX7_passesBy_63 : decode cX7_passesBy 63 = .ok (.iaload, 1) := by decide +kernel
theorem dX7_passesBy_64 : decode cX7_passesBy 64 = .ok (.goto 9, 3) := by decide +kernel
theorem dX7_passesBy_67 : decode cX7_passesBy 67 = .ok (.aload_n 0, 1) := by decide +kernel
theorem dX7_passesBy_68 : decode cX7_passesBy 68 = .ok (.iload_n 3, 1) := by decide +kernel
theorem dX7_passesBy_69 : decode cX7_passesBy 69 = .ok (.iload_n 2, 1) := by decide +kernel
theorem dX7_passesBy_70 : decode cX7_passesBy 70 = .ok (.invokevirtual 83, 3) := by decide +kernel
theorem dX7_passesBy_73 : decode cX7_passesBy 73 = .ok (.invokevirtual 115, 3) := by decide +kernel
theorem dX7_passesBy_76 : decode cX7_passesBy 76 = .ok (.iinc 3 1, 3) := by decide +kernel
theorem dX7_passesBy_79 : decode cX7_passesBy 79 = .ok (.goto (-61), 3) := by decide +kernel
theorem dX7_passesBy_82 : decode cX7_passesBy 82 = .ok (.return_, 1) := by decide +kernel
theorem dX7_week_0 : decode cX7_week 0 = .ok (.iconst 0, 1) := by decide +kernel
theorem dX7_week_1 : decode cX7_week 1 = .ok (.istore_n 1, 1) := by decide +kernel
theorem dX7_week_2 : decode cX7_week 2 = .ok (.iload_n 1, 1) := by decide +kernel
theorem dX7_week_3 : decode cX7_week 3 = .ok (.aload_n 0, 1) := by decide +kernel
theorem dX7_week_4 : decode cX7_week 4 = .ok (.getfield 9, 3) := by decide +kernel
theorem dX7_week_7 : decode cX7_week 7 = .ok (.iconst 1, 1) := by decide +kernel
theorem dX7_week_8 : decode cX7_week 8 = .ok (.iaload, 1) := by decide +kernel
theorem dX7_week_9 : decode cX7_week 9 = .ok (.if_icmp .ge 14, 3) := by decide +kernel
theorem dX7_week_12 : decode cX7_week 12 = .ok (.aload_n 0, 1) := by decide +kernel
theorem dX7_week_13 : decode cX7_week 13 = .ok (.iload_n 1, 1) := by decide +kernel
theorem dX7_week_14 : decode cX7_week 14 = .ok (.invokevirtual 162, 3) := by decide +kernel
theorem dX7_week_17 : decode cX7_week 17 = .ok (.iinc 1 1, 3) := by decide +kernel
theorem dX7_week_20 : decode cX7_week 20 = .ok (.goto (-18), 3) := by decide +kernel
theorem dX7_week_23 : decode cX7_week 23 = .ok (.aload_n 0, 1) := by decide +kernel
theorem dX7_week_24 : decode cX7_week 24 = .ok (.invokevirtual 166, 3) := by decide +kernel
theorem dX7_week_27 : decode cX7_week 27 = .ok (.aload_n 0, 1) := by decide +kernel
theorem dX7_week_28 : decode cX7_week 28 = .ok (.getfield 9, 3) := by decide +kernel
theorem dX7_week_31 : decode cX7_week 31 = .ok (.iconst 2, 1) := by decide +kernel
theorem dX7_week_32 : decode cX7_week 32 = .ok (.iaload, 1) := by decide +kernel
theorem dX7_week_33 : decode cX7_week 33 = .ok (.bipush 6, 2) := by decide +kernel
theorem dX7_week_35 : decode cX7_week 35 = .ok (.irem, 1) := by decide +kernel
theorem dX7_week_36 : decode cX7_week 36 = .ok (.istore_n 1, 1) := by decide +kernel
theorem dX7_week_37 : decode cX7_week 37 = .ok (.aload_n 0, 1) := by decide +kernel
theorem dX7_week_38 : decode cX7_week 38 = .ok (.iload_n 1, 1) := by decide +kernel
theorem dX7_week_39 : decode cX7_week 39 = .ok (.invokevirtual 93, 3) := by decide +kernel
theorem dX7_week_42 : decode cX7_week 42 = .ok (.istore_n 2, 1) := by decide +kernel
theorem dX7_week_43 : decode cX7_week 43 = .ok (.aload_n 0, 1) := by decide +kernel
theorem dX7_week_44 : decode cX7_week 44 = .ok (.getfield 9, 3) := by decide +kernel
theorem dX7_week_47 : decode cX7_week 47 = .ok (.bipush 13, 2) := by decide +kernel
theorem dX7_week_49 : decode cX7_week 49 = .ok (.iload_n 1, 1) := by decide +kernel
theorem dX7_week_50 : decode cX7_week 50 = .ok (.iadd, 1) := by decide +kernel
theorem dX7_week_51 : decode cX7_week 51 = .ok (.iload_n 2, 1) := by decide +kernel
theorem dX7_week_52 : decode cX7_week 52 = .ok (.iastore, 1) := by decide +kernel
theorem dX7_week_53 : decode cX7_week 53 = .ok (.aload_n 0, 1) := by decide +kernel
theorem dX7_week_54 : decode cX7_week 54 = .ok (.getfield 9, 3) := by decide +kernel
theorem dX7_week_57 : decode cX7_week 57 = .ok (.iconst 3, 1) := by decide +kernel
theorem dX7_week_58 : decode cX7_week 58 = .ok (.dup2, 1) := by decide +kernel
theorem dX7_week_59 : decode cX7_week 59 = .ok (.iaload, 1) := by decide +kernel
theorem dX7_week_60 : decode cX7_week 60 = .ok (.iload_n 2, 1) := by decide +kernel
theorem dX7_week_61 : decode cX7_week 61 = .ok (.ifCond .ne 7, 3) := by decide +kernel
theorem dX7_week_64 : decode cX7_week 64 = .ok (.iconst 0, 1) := by decide +kernel
theorem dX7_week_65 : decode cX7_week 65 = .ok (.goto 9, 3) := by decide +kernel
theorem dX7_week_68 : decode cX7_week 68 = .ok (.aload_n 0, 1) := by decide +kernel
theorem dX7_week_69 : decode cX7_week 69 = .ok (.iload_n 1, 1) := by decide +kernel
theorem dX7_week_70 : decode cX7_week 70 = .ok (.iload_n 2, 1) := by decide +kernel
theorem dX7_week_71 : decode cX7_week 71 = .ok (.invokevirtual 90, 3) := by decide +kernel
theorem dX7_week_74 : decode cX7_week 74 = .ok (.iadd, 1) := by decide +kernel
theorem dX7_week_75 : decode cX7_week 75 = .ok (.iastore, 1) := by decide +kernel
theorem dX7_week_76 : decode cX7_week 76 = .ok (.aload_n 0, 1) := by decide +kernel
theorem dX7_week_77 : decode cX7_week 77 = .ok (.getfield 9, 3) := by decide +kernel
theorem dX7_week_80 : decode cX7_week 80 = .ok (.iconst 4, 1) := by decide +kernel
theorem dX7_week_81 : decode cX7_week 81 = .ok (.dup2, 1) := by decide +kernel
theorem dX7_week_82 : decode cX7_week 82 = .ok (.iaload, 1) := by decide +kernel
theorem dX7_week_83 : decode cX7_week 83 = .ok (.iload_n 2, 1) := by decide +kernel
theorem dX7_week_84 : decode cX7_week 84 = .ok (.aload_n 0, 1) := by decide +kernel
theorem dX7_week_85 : decode cX7_week 85 = .ok (.getfield 9, 3) := by decide +kernel
theorem dX7_week_88 : decode cX7_week 88 = .ok (.bipush 7, 2) := by decide +kernel
theorem dX7_week_90 : decode cX7_week 90 = .ok (.iload_n 1, 1) := by decide +kernel
theorem dX7_week_91 : decode cX7_week 91 = .ok (.iadd, 1) := by decide +kernel
theorem dX7_week_92 : decode cX7_week 92 = .ok (.iaload, 1) := by decide +kernel
theorem dX7_week_93 : decode cX7_week 93 = .ok (.if_icmp .ne 7, 3) := by decide +kernel
theorem dX7_week_96 : decode cX7_week 96 = .ok (.iconst 0, 1) := by decide +kernel
theorem dX7_week_97 : decode cX7_week 97 = .ok (.goto 4, 3) := by decide +kernel
theorem dX7_week_100 : decode cX7_week 100 = .ok (.iconst 1, 1) := by decide +kernel
theorem dX7_week_101 : decode cX7_week 101 = .ok (.iadd, 1) := by decide +kernel
theorem dX7_week_102 : decode cX7_week 102 = .ok (.iastore, 1) := by decide +kernel
theorem dX7_week_103 : decode cX7_week 103 = .ok (.aload_n 0, 1) := by decide +kernel
theorem dX7_week_104 : decode cX7_week 104 = .ok (.getfield 9, 3) := by decide +kernel
theorem dX7_week_107 : decode cX7_week 107 = .ok (.iconst 2, 1) := by decide +kernel
theorem dX7_week_108 : decode cX7_week 108 = .ok (.dup2, 1) := by decide +kernel
theorem dX7_week_109 : decode cX7_week 109 = .ok (.iaload, 1) := by decide +kernel
theorem dX7_week_110 : decode cX7_week 110 = .ok (.iconst 1, 1) := by decide +kernel
theorem dX7_week_111 : decode cX7_week 111 = .ok (.iadd, 1) := by decide +kernel
theorem dX7_week_112 : decode cX7_week 112 = .ok (.iastore, 1) := by decide +kernel
theorem dX7_week_113 : decode cX7_week 113 = .ok (.return_, 1) := by decide +kernel
theorem dX7_goesOn_0 : decode cX7_goesOn 0 = .ok (.iconst 0, 1) := by decide +kernel
theorem dX7_goesOn_1 : decode cX7_goesOn 1 = .ok (.istore_n 2, 1) := by decide +kernel
theorem dX7_goesOn_2 : decode cX7_goesOn 2 = .ok (.iload_n 2, 1) := by decide +kernel
theorem dX7_goesOn_3 : decode cX7_goesOn 3 = .ok (.iload_n 1, 1) := by decide +kernel
theorem dX7_goesOn_4 : decode cX7_goesOn 4 = .ok (.if_icmp .ge 13, 3) := by decide +kernel
theorem dX7_goesOn_7 : decode cX7_goesOn 7 = .ok (.aload_n 0, 1) := by decide +kernel
theorem dX7_goesOn_8 : decode cX7_goesOn 8 = .ok (.invokevirtual 169, 3) := by decide +kernel
theorem dX7_goesOn_11 : decode cX7_goesOn 11 = .ok (.iinc 2 1, 3) := by decide +kernel
theorem dX7_goesOn_14 : decode cX7_goesOn 14 = .ok (.goto (-12), 3) := by decide +kernel
theorem dX7_goesOn_17 : decode cX7_goesOn 17 = .ok (.return_, 1) := by decide +kernel
theorem dX7_weeks_0 : decode cX7_weeks 0 = .ok (.iload_n 1, 1) := by decide +kernel
theorem dX7_weeks_1 : decode cX7_weeks 1 = .ok (.iconst 1, 1) := by decide +kernel
theorem dX7_weeks_2 : decode cX7_weeks 2 = .ok (.bipush 100, 2) := by decide +kernel
theorem dX7_weeks_4 : decode cX7_weeks 4 = .ok (.invokestatic 75, 3) := by decide +kernel
theorem dX7_weeks_7 : decode cX7_weeks 7 = .ok (.ifCond .ne 6, 3) := by decide +kernel
theorem dX7_weeks_10 : decode cX7_weeks 10 = .ok (.ldc 119, 2) := by decide +kernel
theorem dX7_weeks_12 : decode cX7_weeks 12 = .ok (.ireturn, 1) := by decide +kernel
theorem dX7_weeks_13 : decode cX7_weeks 13 = .ok (.aload_n 0, 1) := by decide +kernel
theorem dX7_weeks_14 : decode cX7_weeks 14 = .ok (.getfield 9, 3) := by decide +kernel
theorem dX7_weeks_17 : decode cX7_weeks 17 = .ok (.iconst 3, 1) := by decide +kernel
theorem dX7_weeks_18 : decode cX7_weeks 18 = .ok (.iaload, 1) := by decide +kernel
theorem dX7_weeks_19 : decode cX7_weeks 19 = .ok (.istore_n 2, 1) := by decide +kernel
theorem dX7_weeks_20 : decode cX7_weeks 20 = .ok (.aload_n 0, 1) := by decide +kernel
theorem dX7_weeks_21 : decode cX7_weeks 21 = .ok (.sipush 9999, 3) := by decide +kernel
theorem dX7_weeks_24 : decode cX7_weeks 24 = .ok (.aload_n 0, 1) := by decide +kernel
theorem dX7_weeks_25 : decode cX7_weeks 25 = .ok (.getfield 9, 3) := by decide +kernel
theorem dX7_weeks_28 : decode cX7_weeks 28 = .ok (.iconst 2, 1) := by decide +kernel
theorem dX7_weeks_29 : decode cX7_weeks 29 = .ok (.iaload, 1) := by decide +kernel
theorem dX7_weeks_30 : decode cX7_weeks 30 = .ok (.isub, 1) := by decide +kernel
theorem dX7_weeks_31 : decode cX7_weeks 31 = .ok (.iconst 0, 1) := by decide +kernel
theorem dX7_weeks_32 : decode cX7_weeks 32 = .ok (.iload_n 1, 1) := by decide +kernel
theorem dX7_weeks_33 : decode cX7_weeks 33 = .ok (.invokestatic 108, 3) := by decide +kernel
theorem dX7_weeks_36 : decode cX7_weeks 36 = .ok (.invokevirtual 172, 3) := by decide +kernel
theorem dX7_weeks_39 : decode cX7_weeks 39 = .ok (.aload_n 0, 1) := by decide +kernel
theorem dX7_weeks_40 : decode cX7_weeks 40 = .ok (.getfield 9, 3) := by decide +kernel
theorem dX7_weeks_43 : decode cX7_weeks 43 = .ok (.iconst 3, 1) := by decide +kernel
theorem dX7_weeks_44 : decode cX7_weeks 44 = .ok (.iaload, 1) := by decide +kernel
theorem dX7_weeks_45 : decode cX7_weeks 45 = .ok (.iload_n 2, 1) := by decide +kernel
theorem dX7_weeks_46 : decode cX7_weeks 46 = .ok (.isub, 1) := by decide +kernel
theorem dX7_weeks_47 : decode cX7_weeks 47 = .ok (.ireturn, 1) := by decide +kernel
theorem dX7_agreed_0 : decode cX7_agreed 0 = .ok (.iconst 0, 1) := by decide +kernel
theorem dX7_agreed_1 : decode cX7_agreed 1 = .ok (.istore_n 1, 1) := by decide +kernel
theorem dX7_agreed_2 : decode cX7_agreed 2 = .ok (.iconst 0, 1) := by decide +kernel
theorem dX7_agreed_3 : decode cX7_agreed 3 = .ok (.istore_n 2, 1) := by decide +kernel
theorem dX7_agreed_4 : decode cX7_agreed 4 = .ok (.iload_n 2, 1) := by decide +kernel
theorem dX7_agreed_5 : decode cX7_agreed 5 = .ok (.bipush 6, 2) := by decide +kernel
theorem dX7_agreed_7 : decode cX7_agreed 7 = .ok (.if_icmp .ge 94, 3) := by decide +kernel
theorem dX7_agreed_10 : decode cX7_agreed 10 = .ok (.aload_n 0, 1) := by decide +kernel
theorem dX7_agreed_11 : decode cX7_agreed 11 = .ok (.iload_n 2, 1) := by decide +kernel
theorem dX7_agreed_12 : decode cX7_agreed 12 = .ok (.invokevirtual 93, 3) := by decide +kernel
theorem dX7_agreed_15 : decode cX7_agreed 15 = .ok (.istore_n 3, 1) := by decide +kernel
theorem dX7_agreed_16 : decode cX7_agreed 16 = .ok (.iload_n 3, 1) := by decide +kernel
theorem dX7_agreed_17 : decode cX7_agreed 17 = .ok (.ifCond .eq 7, 3) := by decide +kernel
theorem dX7_agreed_20 : decode cX7_agreed 20 = .ok (.iconst 1, 1) := by decide +kernel
theorem dX7_agreed_21 : decode cX7_agreed 21 = .ok (.goto 4, 3) := by decide +kernel
theorem dX7_agreed_24 : decode cX7_agreed 24 = .ok (.iconst 0, 1) := by decide +kernel
theorem dX7_agreed_25 : decode cX7_agreed 25 = .ok (.istore 4, 2) := by decide +kernel
theorem dX7_agreed_27 : decode cX7_agreed 27 = .ok (.iconst 0, 1) := by decide +kernel
theorem dX7_agreed_28 : decode cX7_agreed 28 = .ok (.istore 5, 2) := by decide +kernel
theorem dX7_agreed_30 : decode cX7_agreed 30 = .ok (.iload 5, 2) := by decide +kernel
theorem dX7_agreed_32 : decode cX7_agreed 32 = .ok (.aload_n 0, 1) := by decide +kernel
theorem dX7_agreed_33 : decode cX7_agreed 33 = .ok (.getfield 9, 3) := by decide +kernel
theorem dX7_agreed_36 : decode cX7_agreed 36 = .ok (.iconst 1, 1) := by decide +kernel
theorem dX7_agreed_37 : decode cX7_agreed 37 = .ok (.iaload, 1) := by decide +kernel
theorem dX7_agreed_38 : decode cX7_agreed 38 = .ok (.if_icmp .ge 42, 3) := by decide +kernel
theorem dX7_agreed_41 : decode cX7_agreed 41 = .ok (.iload 4, 2) := by decide +kernel
theorem dX7_agreed_43 : decode cX7_agreed 43 = .ok (.ifCond .eq 28, 3) := by decide +kernel
theorem dX7_agreed_46 : decode cX7_agreed 46 = .ok (.aload_n 0, 1) := by decide +kernel
theorem dX7_agreed_47 : decode cX7_agreed 47 = .ok (.iload 5, 2) := by decide +kernel
theorem dX7_agreed_49 : decode cX7_agreed 49 = .ok (.iload_n 2, 1) := by decide +kernel
theorem dX7_agreed_50 : decode cX7_agreed 50 = .ok (.invokevirtual 83, 3) := by decide +kernel
theorem dX7_agreed_53 : decode cX7_agreed 53 = .ok (.ifCond .eq 14, 3) := by decide +kernel
theorem dX7_agreed_56 : decode cX7_agreed 56 = .ok (.aload_n 0, 1) := by decide +kernel
theorem dX7_agreed_57 : decode cX7_agreed 57 = .ok (.iload 5, 2) := by decide +kernel
theorem dX7_agreed_59 : decode cX7_agreed 59 = .ok (.iload_n 2, 1) := by decide +kernel
theorem dX7_agreed_60 : decode cX7_agreed 60 = .ok (.invokevirtual 83, 3) := by decide +kernel
theorem dX7_agreed_63 : decode cX7_agreed 63 = .ok (.iload_n 3, 1) := by decide +kernel
theorem dX7_agreed_64 : decode cX7_agreed 64 = .ok (.if_icmp .ne 7, 3) := by decide +kernel
theorem dX7_agreed_67 : decode cX7_agreed 67 = .ok (.iconst 1, 1) := by decide +kernel
theorem dX7_agreed_68 : decode cX7_agreed 68 = .ok (.goto 4, 3) := by decide +kernel
theorem dX7_agreed_71 : decode cX7_agreed 71 = .ok (.iconst 0, 1) := by decide +kernel
theorem dX7_agreed_72 : decode cX7_agreed 72 = .ok (.istore 4, 2) := by decide +kernel
theorem dX7_agreed_74 : decode cX7_agreed 74 = .ok (.iinc 5 1, 3) := by decide +kernel
theorem dX7_agreed_77 : decode cX7_agreed 77 = .ok (.goto (-47), 3) := by decide +kernel
theorem dX7_agreed_80 : decode cX7_agreed 80 = .ok (.iload_n 1, 1) := by decide +kernel
theorem dX7_agreed_81 : decode cX7_agreed 81 = .ok (.iload 4, 2) := by decide +kernel
theorem dX7_agreed_83 : decode cX7_agreed 83 = .ok (.ifCond .eq 9, 3) := by decide +kernel
theorem dX7_agreed_86 : decode cX7_agreed 86 = .ok (.iconst 1, 1) := by decide +kernel
theorem dX7_agreed_87 : decode cX7_agreed 87 = .ok (.iload_n 2, 1) := by decide +kernel
theorem dX7_agreed_88 : decode cX7_agreed 88 = .ok (.ishl, 1) := by decide +kernel
theorem dX7_agreed_89 : decode cX7_agreed 89 = .ok (.goto 4, 3) := by decide +kernel
theorem dX7_agreed_92 : decode cX7_agreed 92 = .ok (.iconst 0, 1) := by decide +kernel
theorem dX7_agreed_93 : decode cX7_agreed 93 = .ok (.ior, 1) := by decide +kernel
theorem dX7_agreed_94 : decode cX7_agreed 94 = .ok (.istore_n 1, 1) := by decide +kernel
theorem dX7_agreed_95 : decode cX7_agreed 95 = .ok (.iinc 2 1, 3) := by decide +kernel
theorem dX7_agreed_98 : decode cX7_agreed 98 = .ok (.goto (-94), 3) := by decide +kernel
theorem dX7_agreed_101 : decode cX7_agreed 101 = .ok (.iload_n 1, 1) := by decide +kernel
theorem dX7_agreed_102 : decode cX7_agreed 102 = .ok (.ireturn, 1) := by decide +kernel
theorem dX7_allSure_0 : decode cX7_allSure 0 = .ok (.iconst 0, 1) := by decide +kernel
theorem dX7_allSure_1 : decode cX7_allSure 1 = .ok (.istore_n 1, 1) := by decide +kernel
theorem dX7_allSure_2 : decode cX7_allSure 2 = .ok (.iconst 0, 1) := by decide +kernel
theorem dX7_allSure_3 : decode cX7_allSure 3 = .ok (.istore_n 2, 1) := by decide +kernel
theorem dX7_allSure_4 : decode cX7_allSure 4 = .ok (.iload_n 2, 1) := by decide +kernel
theorem dX7_allSure_5 : decode cX7_allSure 5 = .ok (.aload_n 0, 1) := by decide +kernel
theorem dX7_allSure_6 : decode cX7_allSure 6 = .ok (.getfield 9, 3) := by decide +kernel
theorem dX7_allSure_9 : decode cX7_allSure 9 = .ok (.iconst 1, 1) := by decide +kernel
theorem dX7_allSure_10 : decode cX7_allSure 10 = .ok (.iaload, 1) := by decide +kernel
theorem dX7_allSure_11 : decode cX7_allSure 11 = .ok (.if_icmp .ge 18, 3) := by decide +kernel
theorem dX7_allSure_14 : decode cX7_allSure 14 = .ok (.iload_n 1, 1) := by decide +kernel
theorem dX7_allSure_15 : decode cX7_allSure 15 = .ok (.aload_n 0, 1) := by decide +kernel
theorem dX7_allSure_16 : decode cX7_allSure 16 = .ok (.iload_n 2, 1) := by decide +kernel
theorem dX7_allSure_17 : decode cX7_allSure 17 = .ok (.iconst 3, 1) := by decide +kernel
theorem dX7_allSure_18 : decode cX7_allSure 18 = .ok (.invokevirtual 79, 3) := by decide +kernel
theorem dX7_allSure_21 : decode cX7_allSure 21 = .ok (.iadd, 1) := by decide +kernel
theorem dX7_allSure_22 : decode cX7_allSure 22 = .ok (.istore_n 1, 1) := by decide +kernel
theorem dX7_allSure_23 : decode cX7_allSure 23 = .ok (.iinc 2 1, 3) := by decide +kernel
theorem dX7_allSure_26 : decode cX7_allSure 26 = .ok (.goto (-22), 3) := by decide +kernel
theorem dX7_allSure_29 : decode cX7_allSure 29 = .ok (.iload_n 1, 1) := by decide +kernel
theorem dX7_allSure_30 : decode cX7_allSure 30 = .ok (.ireturn, 1) := by decide +kernel
theorem dX7_county_0 : decode cX7_county 0 = .ok (.iload_n 1, 1) := by decide +kernel
theorem dX7_county_1 : decode cX7_county 1 = .ok (.tableswitch 54 0 4 #[35, 35, 35, 44, 49], 35) := by decide +kernel
theorem dX7_county_36 : decode cX7_county 36 = .ok (.aload_n 0, 1) := by decide +kernel
theorem dX7_county_37 : decode cX7_county 37 = .ok (.getfield 9, 3) := by decide +kernel
theorem dX7_county_40 : decode cX7_county 40 = .ok (.iconst 3, 1) := by decide +kernel
theorem dX7_county_41 : decode cX7_county 41 = .ok (.iload_n 1, 1) := by decide +kernel
theorem dX7_county_42 : decode cX7_county 42 = .ok (.iadd, 1) := by decide +kernel
theorem dX7_county_43 : decode cX7_county 43 = .ok (.iaload, 1) := by decide +kernel
theorem dX7_county_44 : decode cX7_county 44 = .ok (.ireturn, 1) := by decide +kernel
theorem dX7_county_45 : decode cX7_county 45 = .ok (.aload_n 0, 1) := by decide +kernel
theorem dX7_county_46 : decode cX7_county 46 = .ok (.invokevirtual 175, 3) := by decide +kernel
theorem dX7_county_49 : decode cX7_county 49 = .ok (.ireturn, 1) := by decide +kernel
theorem dX7_county_50 : decode cX7_county 50 = .ok (.aload_n 0, 1) := by decide +kernel
theorem dX7_county_51 : decode cX7_county 51 = .ok (.invokevirtual 178, 3) := by decide +kernel
theorem dX7_county_54 : decode cX7_county 54 = .ok (.ireturn, 1) := by decide +kernel
theorem dX7_county_55 : decode cX7_county 55 = .ok (.ldc 119, 2) := by decide +kernel
theorem dX7_county_57 : decode cX7_county 57 = .ok (.ireturn, 1) := by decide +kernel
theorem dX7_dreams_0 : decode cX7_dreams 0 = .ok (.aload_n 0, 1) := by decide +kernel
theorem dX7_dreams_1 : decode cX7_dreams 1 = .ok (.getfield 9, 3) := by decide +kernel
theorem dX7_dreams_4 : decode cX7_dreams 4 = .ok (.aload_n 0, 1) := by decide +kernel
theorem dX7_dreams_5 : decode cX7_dreams 5 = .ok (.getfield 16, 3) := by decide +kernel
theorem dX7_dreams_8 : decode cX7_dreams 8 = .ok (.invokestatic 181, 3) := by decide +kernel
theorem dX7_dreams_11 : decode cX7_dreams 11 = .ok (.return_, 1) := by decide +kernel
theorem dX7_putsBack_0 : decode cX7_putsBack 0 = .ok (.aload_n 0, 1) := by decide +kernel
theorem dX7_putsBack_1 : decode cX7_putsBack 1 = .ok (.getfield 16, 3) := by decide +kernel
theorem dX7_putsBack_4 : decode cX7_putsBack 4 = .ok (.aload_n 0, 1) := by decide +kernel
theorem dX7_putsBack_5 : decode cX7_putsBack 5 = .ok (.getfield 9, 3) := by decide +kernel
theorem dX7_putsBack_8 : decode cX7_putsBack 8 = .ok (.invokestatic 181, 3) := by decide +kernel
theorem dX7_putsBack_11 : decode cX7_putsBack 11 = .ok (.return_, 1) := by decide +kernel
theorem dX7_behind_0 : decode cX7_behind 0 = .ok (.iload_n 1, 1) := by decide +kernel
theorem dX7_behind_1 : decode cX7_behind 1 = .ok (.iconst 0, 1) := by decide +kernel
theorem dX7_behind_2 : decode cX7_behind 2 = .ok (.bipush 100, 2) := by decide +kernel
theorem dX7_behind_4 : decode cX7_behind 4 = .ok (.invokestatic 75, 3) := by decide +kernel
theorem dX7_behind_7 : decode cX7_behind 7 = .ok (.ifCond .eq 13, 3) := by decide +kernel
theorem dX7_behind_10 : decode cX7_behind 10 = .ok (.iload_n 2, 1) := by decide +kernel
theorem dX7_behind_11 : decode cX7_behind 11 = .ok (.iconst 0, 1) := by decide +kernel
theorem dX7_behind_12 : decode cX7_behind 12 = .ok (.bipush 8, 2) := by decide +kernel
theorem dX7_behind_14 : decode cX7_behind 14 = .ok (.invokestatic 75, 3) := by decide +kernel
theorem dX7_behind_17 : decode cX7_behind 17 = .ok (.ifCond .ne 6, 3) := by decide +kernel
theorem dX7_behind_20 : decode cX7_behind 20 = .ok (.ldc 119, 2) := by decide +kernel
theorem dX7_behind_22 : decode cX7_behind 22 = .ok (.ireturn, 1) := by decide +kernel
theorem dX7_behind_23 : decode cX7_behind 23 = .ok (.aload_n 0, 1) := by decide +kernel
theorem dX7_behind_24 : decode cX7_behind 24 = .ok (.invokevirtual 185, 3) := by decide +kernel
theorem dX7_behind_27 : decode cX7_behind 27 = .ok (.aload_n 0, 1) := by decide +kernel
theorem dX7_behind_28 : decode cX7_behind 28 = .ok (.iload_n 1, 1) := by decide +kernel
theorem dX7_behind_29 : decode cX7_behind 29 = .ok (.invokevirtual 172, 3) := by decide +kernel
theorem dX7_behind_32 : decode cX7_behind 32 = .ok (.iload_n 2, 1) := by decide +kernel
theorem dX7_behind_33 : decode cX7_behind 33 = .ok (.iconst 3, 1) := by decide +kernel
theorem dX7_behind_34 : decode cX7_behind 34 = .ok (.if_icmp .ge 14, 3) := by decide +kernel
theorem dX7_behind_37 : decode cX7_behind 37 = .ok (.aload_n 0, 1) := by decide +kernel
theorem dX7_behind_38 : decode cX7_behind 38 = .ok (.getfield 9, 3) := by decide +kernel
theorem dX7_behind_41 : decode cX7_behind 41 = .ok (.iconst 3, 1) := by decide +kernel
theorem dX7_behind_42 : decode cX7_behind 42 = .ok (.iload_n 2, 1) := by decide +kernel
theorem dX7_behind_43 : decode cX7_behind 43 = .ok (.iadd, 1) := by decide +kernel
theorem dX7_behind_44 : decode cX7_behind 44 = .ok (.iaload, 1) := by decide +kernel
theorem dX7_behind_45 : decode cX7_behind 45 = .ok (.goto 14, 3) := by decide +kernel
theorem dX7_behind_48 : decode cX7_behind 48 = .ok (.aload_n 0, 1) := by decide +kernel
theorem dX7_behind_49 : decode cX7_behind 49 = .ok (.getfield 9, 3) := by decide +kernel
theorem dX7_behind_52 : decode cX7_behind 52 = .ok (.bipush 13, 2) := by decide +kernel
theorem dX7_behind_54 : decode cX7_behind 54 = .ok (.iload_n 2, 1) := by decide +kernel
theorem dX7_behind_55 : decode cX7_behind 55 = .ok (.iadd, 1) := by decide +kernel
theorem dX7_behind_56 : decode cX7_behind 56 = .ok (.iconst 3, 1) := by decide +kernel
theorem dX7_behind_57 : decode cX7_behind 57 = .ok (.isub, 1) := by decide +kernel
theorem dX7_behind_58 : decode cX7_behind 58 = .ok (.iaload, 1) := by decide +kernel
theorem dX7_behind_59 : decode cX7_behind 59 = .ok (.istore_n 3, 1) := by decide +kernel
theorem dX7_behind_60 : decode cX7_behind 60 = .ok (.aload_n 0, 1) := by decide +kernel
theorem dX7_behind_61 : decode cX7_behind 61 = .ok (.invokevirtual 188, 3) := by decide +kernel
theorem dX7_behind_64 : decode cX7_behind 64 = .ok (.iload_n 3, 1) := by decide +kernel
theorem dX7_behind_65 : decode cX7_behind 65 = .ok (.ireturn, 1) := by decide +kernel
theorem dX7_first_0 : decode cX7_first 0 = .ok (.iload_n 1, 1) := by decide +kernel
theorem dX7_first_1 : decode cX7_first 1 = .ok (.invokestatic 145, 3) := by decide +kernel
theorem dX7_first_4 : decode cX7_first 4 = .ok (.ifCond .eq 13, 3) := by decide +kernel
theorem dX7_first_7 : decode cX7_first 7 = .ok (.iload_n 2, 1) := by decide +kernel
theorem dX7_first_8 : decode cX7_first 8 = .ok (.iconst 0, 1) := by decide +kernel
theorem dX7_first_9 : decode cX7_first 9 = .ok (.bipush 9, 2) := by decide +kernel
theorem dX7_first_11 : decode cX7_first 11 = .ok (.invokestatic 75, 3) := by decide +kernel
theorem dX7_first_14 : decode cX7_first 14 = .ok (.ifCond .ne 6, 3) := by decide +kernel
theorem dX7_first_17 : decode cX7_first 17 = .ok (.ldc 119, 2) := by decide +kernel
theorem dX7_first_19 : decode cX7_first 19 = .ok (.ireturn, 1) := by decide +kernel
theorem dX7_first_20 : decode cX7_first 20 = .ok (.aload_n 0, 1) := by decide +kernel
theorem dX7_first_21 : decode cX7_first 21 = .ok (.invokevirtual 185, 3) := by decide +kernel
theorem dX7_first_24 : decode cX7_first 24 = .ok (.iconst 0, 1) := by decide +kernel
theorem dX7_first_25 : decode cX7_first 25 = .ok (.istore_n 3, 1) := by decide +kernel
theorem dX7_first_26 : decode cX7_first 26 = .ok (.iload_n 3, 1) := by decide +kernel
theorem dX7_first_27 : decode cX7_first 27 = .ok (.sipush 200, 3) := by decide +kernel
theorem dX7_first_30 : decode cX7_first 30 = .ok (.if_icmp .gt 26, 3) := by decide +kernel
theorem dX7_first_33 : decode cX7_first 33 = .ok (.aload_n 0, 1) := by decide +kernel
theorem dX7_first_34 : decode cX7_first 34 = .ok (.getfield 9, 3) := by decide +kernel
theorem dX7_first_37 : decode cX7_first 37 = .ok (.bipush 13, 2) := by decide +kernel
theorem dX7_first_39 : decode cX7_first 39 = .ok (.iload_n 1, 1) := by decide +kernel
theorem dX7_first_40 : decode cX7_first 40 = .ok (.iadd, 1) := by decide +kernel
theorem dX7_first_41 : decode cX7_first 41 = .ok (.iaload, 1) := by decide +kernel
theorem dX7_first_42 : decode cX7_first 42 = .ok (.iload_n 2, 1) := by decide +kernel
theorem dX7_first_43 : decode cX7_first 43 = .ok (.if_icmp .eq 13, 3) := by decide +kernel
theorem dX7_first_46 : decode cX7_first 46 = .ok (.aload_n 0, 1) := by decide +kernel
theorem dX7_first_47 : decode cX7_first 47 = .ok (.invokevirtual 169, 3) := by decide +kernel
theorem dX7_first_50 : decode cX7_first 50 = .ok (.iinc 3 1, 3) := by decide +kernel
theorem dX7_first_53 : decode cX7_first 53 = .ok (.goto (-27), 3) := by decide +kernel
theorem dX7_first_56 : decode cX7_first 56 = .ok (.aload_n 0, 1) := by decide +kernel
theorem dX7_first_57 : decode cX7_first 57 = .ok (.invokevirtual 188, 3) := by decide +kernel
theorem dX7_first_60 : decode cX7_first 60 = .ok (.iload_n 3, 1) := by decide +kernel
theorem dX7_first_61 : decode cX7_first 61 = .ok (.sipush 200, 3) := by decide +kernel
theorem dX7_first_64 : decode cX7_first 64 = .ok (.if_icmp .le 8, 3) := by decide +kernel
theorem dX7_first_67 : decode cX7_first 67 = .ok (.ldc 191, 2) := by decide +kernel
theorem dX7_first_69 : decode cX7_first 69 = .ok (.goto 4, 3) := by decide +kernel
theorem dX7_first_72 : decode cX7_first 72 = .ok (.iload_n 3, 1) := by decide +kernel
theorem dX7_first_73 : decode cX7_first 73 = .ok (.ireturn, 1) := by decide +kernel
theorem dX7_isTold_0 : decode cX7_isTold 0 = .ok (.aload_n 0, 1) := by decide +kernel
theorem dX7_isTold_1 : decode cX7_isTold 1 = .ok (.iload_n 1, 1) := by decide +kernel
theorem dX7_isTold_2 : decode cX7_isTold 2 = .ok (.iconst 4, 1) := by decide +kernel
theorem dX7_isTold_3 : decode cX7_isTold 3 = .ok (.iload_n 2, 1) := by decide +kernel
theorem dX7_isTold_4 : decode cX7_isTold 4 = .ok (.iadd, 1) := by decide +kernel
theorem dX7_isTold_5 : decode cX7_isTold 5 = .ok (.iload_n 3, 1) := by decide +kernel
theorem dX7_isTold_6 : decode cX7_isTold 6 = .ok (.invokevirtual 115, 3) := by decide +kernel
theorem dX7_isTold_9 : decode cX7_isTold 9 = .ok (.aload_n 0, 1) := by decide +kernel
theorem dX7_isTold_10 : decode cX7_isTold 10 = .ok (.iload_n 1, 1) := by decide +kernel
theorem dX7_isTold_11 : decode cX7_isTold 11 = .ok (.iconst 3, 1) := by decide +kernel
theorem dX7_isTold_12 : decode cX7_isTold 12 = .ok (.bipush 99, 2) := by decide +kernel
theorem dX7_isTold_14 : decode cX7_isTold 14 = .ok (.invokevirtual 115, 3) := by decide +kernel
theorem dX7_isTold_17 : decode cX7_isTold 17 = .ok (.return_, 1) := by decide +kernel
theorem dX7_ear_0 : decode cX7_ear 0 = .ok (.iload_n 1, 1) := by decide +kernel
theorem dX7_ear_1 : decode cX7_ear 1 = .ok (.invokestatic 145, 3) := by decide +kernel
theorem dX7_ear_4 : decode cX7_ear 4 = .ok (.ifCond .eq 33, 3) := by decide +kernel
theorem dX7_ear_7 : decode cX7_ear 7 = .ok (.iload_n 2, 1) := by decide +kernel
theorem dX7_ear_8 : decode cX7_ear 8 = .ok (.iconst 1, 1) := by decide +kernel
theorem dX7_ear_9 : decode cX7_ear 9 = .ok (.bipush 9, 2) := by decide +kernel
theorem dX7_ear_11 : decode cX7_ear 11 = .ok (.invokestatic 75, 3) := by decide +kernel
theorem dX7_ear_14 : decode cX7_ear 14 = .ok (.ifCond .eq 23, 3) := by decide +kernel
theorem dX7_ear_17 : decode cX7_ear 17 = .ok (.iload_n 3, 1) := by decide +kernel
theorem dX7_ear_18 : decode cX7_ear 18 = .ok (.iconst 0, 1) := by decide +kernel
theorem dX7_ear_19 : decode cX7_ear 19 = .ok (.bipush 60, 2) := by decide +kernel
theorem dX7_ear_21 : decode cX7_ear 21 = .ok (.invokestatic 75, 3) := by decide +kernel
theorem dX7_ear_24 : decode cX7_ear 24 = .ok (.ifCond .eq 13, 3) := by decide +kernel
theorem dX7_ear_27 : decode cX7_ear 27 = .ok (.iload 4, 2) := by decide +kernel
theorem dX7_ear_29 : decode cX7_ear 29 = .ok (.iconst 0, 1) := by decide +kernel
theorem dX7_ear_30 : decode cX7_ear 30 = .ok (.iconst 1, 1) := by decide +kernel
theorem dX7_ear_31 : decode cX7_ear 31 = .ok (.invokestatic 75, 3) := by decide +kernel
theorem dX7_ear_34 : decode cX7_ear 34 = .ok (.ifCond .ne 6, 3) := by decide +kernel
theorem dX7_ear_37 : decode cX7_ear 37 = .ok (.ldc 119, 2) := by decide +kernel
theorem dX7_ear_39 : decode cX7_ear 39 = .ok (.ireturn, 1) := by decide +kernel
theorem dX7_ear_40 : decode cX7_ear 40 = .ok (.aload_n 0, 1) := by decide +kernel
theorem dX7_ear_41 : decode cX7_ear 41 = .ok (.invokevirtual 185, 3) := by decide +kernel
theorem dX7_ear_44 : decode cX7_ear 44 = .ok (.ldc 191, 2) := by decide +kernel
theorem dX7_ear_46 : decode cX7_ear 46 = .ok (.istore 5, 2) := by decide +kernel
theorem dX7_ear_48 : decode cX7_ear 48 = .ok (.iconst (-1), 1) := by decide +kernel
theorem dX7_ear_49 : decode cX7_ear 49 = .ok (.istore 6, 2) := by decide +kernel
theorem dX7_ear_51 : decode cX7_ear 51 = .ok (.iconst 0, 1) := by decide +kernel
theorem dX7_ear_52 : decode cX7_ear 52 = .ok (.istore 7, 2) := by decide +kernel
theorem dX7_ear_54 : decode cX7_ear 54 = .ok (.iload 7, 2) := by decide +kernel
theorem dX7_ear_56 : decode cX7_ear 56 = .ok (.aload_n 0, 1) := by decide +kernel
theorem dX7_ear_57 : decode cX7_ear 57 = .ok (.getfield 9, 3) := by decide +kernel
theorem dX7_ear_60 : decode cX7_ear 60 = .ok (.iconst 1, 1) := by decide +kernel
theorem dX7_ear_61 : decode cX7_ear 61 = .ok (.iaload, 1) := by decide +kernel
theorem dX7_ear_62 : decode cX7_ear 62 = .ok (.if_icmp .ge 66, 3) := by decide +kernel
theorem dX7_ear_65 : decode cX7_ear 65 = .ok (.aload_n 0, 1) := by decide +kernel
theorem dX7_ear_66 : decode cX7_ear 66 = .ok (.iload 7, 2) := by decide +kernel
theorem dX7_ear_68 : decode cX7_ear 68 = .ok (.iload_n 1, 1) := by decide +kernel
theorem dX7_ear_69 : decode cX7_ear 69 = .ok (.iload_n 2, 1) := by decide +kernel
theorem dX7_ear_70 : decode cX7_ear 70 = .ok (.invokevirtual 192, 3) := by decide +kernel
theorem dX7_ear_73 : decode cX7_ear 73 = .ok (.aload_n 0, 1) := by decide +kernel
theorem dX7_ear_74 : decode cX7_ear 74 = .ok (.iload_n 3, 1) := by decide +kernel
theorem dX7_ear_75 : decode cX7_ear 75 = .ok (.invokevirtual 172, 3) := by decide +kernel
theorem dX7_ear_78 : decode cX7_ear 78 = .ok (.aload_n 0, 1) := by decide +kernel
theorem dX7_ear_79 : decode cX7_ear 79 = .ok (.iload_n 1, 1) := by decide +kernel
theorem dX7_ear_80 : decode cX7_ear 80 = .ok (.iload_n 2, 1) := by decide +kernel
theorem dX7_ear_81 : decode cX7_ear 81 = .ok (.invokevirtual 90, 3) := by decide +kernel
theorem dX7_ear_84 : decode cX7_ear 84 = .ok (.istore 8, 2) := by decide +kernel
theorem dX7_ear_86 : decode cX7_ear 86 = .ok (.iload 8, 2) := by decide +kernel
theorem dX7_ear_88 : decode cX7_ear 88 = .ok (.iload 6, 2) := by decide +kernel
theorem dX7_ear_90 : decode cX7_ear 90 = .ok (.if_icmp .le 8, 3) := by decide +kernel
theorem dX7_ear_93 : decode cX7_ear 93 = .ok (.iload 7, 2) := by decide +kernel
theorem dX7_ear_95 : decode cX7_ear 95 = .ok (.goto 5, 3) := by decide +kernel
theorem dX7_ear_98 : decode cX7_ear 98 = .ok (.iload 5, 2) := by decide +kernel
theorem dX7_ear_100 : decode cX7_ear 100 = .ok (.istore 5, 2) := by decide +kernel
theorem dX7_ear_102 : decode cX7_ear 102 = .ok (.iload 8, 2) := by decide +kernel
theorem dX7_ear_104 : decode cX7_ear 104 = .ok (.iload 6, 2) := by decide +kernel
theorem dX7_ear_106 : decode cX7_ear 106 = .ok (.if_icmp .le 8, 3) := by decide +kernel
theorem dX7_ear_109 : decode cX7_ear 109 = .ok (.iload 8, 2) := by decide +kernel
theorem dX7_ear_111 : decode cX7_ear 111 = .ok (.goto 5, 3) := by decide +kernel
theorem dX7_ear_114 : decode cX7_ear 114 = .ok (.iload 6, 2) := by decide +kernel
theorem dX7_ear_116 : decode cX7_ear 116 = .ok (.istore 6, 2) := by decide +kernel
theorem dX7_ear_118 : decode cX7_ear 118 = .ok (.aload_n 0, 1) := by decide +kernel
theorem dX7_ear_119 : decode cX7_ear 119 = .ok (.invokevirtual 188, 3) := by decide +kernel
theorem dX7_ear_122 : decode cX7_ear 122 = .ok (.iinc 7 1, 3) := by decide +kernel
theorem dX7_ear_125 : decode cX7_ear 125 = .ok (.goto (-71), 3) := by decide +kernel
theorem dX7_ear_128 : decode cX7_ear 128 = .ok (.iload 5, 2) := by decide +kernel
theorem dX7_ear_130 : decode cX7_ear 130 = .ok (.ldc 191, 2) := by decide +kernel
theorem dX7_ear_132 : decode cX7_ear 132 = .ok (.if_icmp .ne 8, 3) := by decide +kernel
theorem dX7_ear_135 : decode cX7_ear 135 = .ok (.ldc 191, 2) := by decide +kernel
theorem dX7_ear_137 : decode cX7_ear 137 = .ok (.goto 15, 3) := by decide +kernel
theorem dX7_ear_140 : decode cX7_ear 140 = .ok (.iload 4, 2) := by decide +kernel
theorem dX7_ear_142 : decode cX7_ear 142 = .ok (.ifCond .ne 8, 3) := by decide +kernel
theorem dX7_ear_145 : decode cX7_ear 145 = .ok (.iload 5, 2) := by decide +kernel
theorem dX7_ear_147 : decode cX7_ear 147 = .ok (.goto 5, 3) := by decide +kernel
theorem dX7_ear_150 : decode cX7_ear 150 = .ok (.iload 6, 2) := by decide +kernel
theorem dX7_ear_152 : decode cX7_ear 152 = .ok (.ireturn, 1) := by decide +kernel
theorem dX7_doesGrow_0 : decode cX7_doesGrow 0 = .ok (.iconst 0, 1) := by decide +kernel
theorem dX7_doesGrow_1 : decode cX7_doesGrow 1 = .ok (.istore 5, 2) := by decide +kernel
theorem dX7_doesGrow_3 : decode cX7_doesGrow 3 = .ok (.iload 5, 2) := by decide +kernel
theorem dX7_doesGrow_5 : decode cX7_doesGrow 5 = .ok (.aload_n 0, 1) := by decide +kernel
theorem dX7_doesGrow_6 : decode cX7_doesGrow 6 = .ok (.getfield 9, 3) := by decide +kernel
theorem dX7_doesGrow_9 : decode cX7_doesGrow 9 = .ok (.iconst 1, 1) := by decide +kernel
theorem dX7_doesGrow_10 : decode cX7_doesGrow 10 = .ok (.iaload, 1) := by decide +kernel
theorem dX7_doesGrow_11 : decode cX7_doesGrow 11 = .ok (.if_icmp .ge 27, 3) := by decide +kernel
theorem dX7_doesGrow_14 : decode cX7_doesGrow 14 = .ok (.iload_n 1, 1) := by decide +kernel
theorem dX7_doesGrow_15 : decode cX7_doesGrow 15 = .ok (.iload 5, 2) := by decide +kernel
theorem dX7_doesGrow_17 : decode cX7_doesGrow 17 = .ok (.ishr, 1) := by decide +kernel
theorem dX7_doesGrow_18 : decode cX7_doesGrow 18 = .ok (.iconst 1, 1) := by decide +kernel
theorem dX7_doesGrow_19 : decode cX7_doesGrow 19 = .ok (.iand, 1) := by decide +kernel
theorem dX7_doesGrow_20 : decode cX7_doesGrow 20 = .ok (.iconst 1, 1) := by decide +kernel
theorem dX7_doesGrow_21 : decode cX7_doesGrow 21 = .ok (.if_icmp .ne 11, 3) := by decide +kernel
theorem dX7_doesGrow_24 : decode cX7_doesGrow 24 = .ok (.aload_n 0, 1) := by decide +kernel
theorem dX7_doesGrow_25 : decode cX7_doesGrow 25 = .ok (.iload 5, 2) := by decide +kernel
theorem dX7_doesGrow_27 : decode cX7_doesGrow 27 = .ok (.iload_n 2, 1) := by decide +kernel
theorem dX7_doesGrow_28 : decode cX7_doesGrow 28 = .ok (.iload_n 3, 1) := by decide +kernel
theorem dX7_doesGrow_29 : decode cX7_doesGrow 29 = .ok (.invokevirtual 192, 3) := by decide +kernel
theorem dX7_doesGrow_32 : decode cX7_doesGrow 32 = .ok (.iinc 5 1, 3) := by decide +kernel
theorem dX7_doesGrow_35 : decode cX7_doesGrow 35 = .ok (.goto (-32), 3) := by decide +kernel
theorem dX7_doesGrow_38 : decode cX7_doesGrow 38 = .ok (.aload_n 0, 1) := by decide +kernel
theorem dX7_doesGrow_39 : decode cX7_doesGrow 39 = .ok (.iload 4, 2) := by decide +kernel
theorem dX7_doesGrow_41 : decode cX7_doesGrow 41 = .ok (.invokevirtual 172, 3) := by decide +kernel
theorem dX7_doesGrow_44 : decode cX7_doesGrow 44 = .ok (.aload_n 0, 1) := by decide +kernel
theorem dX7_doesGrow_45 : decode cX7_doesGrow 45 = .ok (.iload_n 2, 1) := by decide +kernel
theorem dX7_doesGrow_46 : decode cX7_doesGrow 46 = .ok (.invokevirtual 93, 3) := by decide +kernel
theorem dX7_doesGrow_49 : decode cX7_doesGrow 49 = .ok (.iload_n 3, 1) := by decide +kernel
theorem dX7_doesGrow_50 : decode cX7_doesGrow 50 = .ok (.if_icmp .ne 7, 3) := by decide +kernel
theorem dX7_doesGrow_53 : decode cX7_doesGrow 53 = .ok (.iconst 1, 1) := by decide +kernel
theorem dX7_doesGrow_54 : decode cX7_doesGrow 54 = .ok (.goto 4, 3) := by decide +kernel
theorem dX7_doesGrow_57 : decode cX7_doesGrow 57 = .ok (.iconst 0, 1) := by decide +kernel
theorem dX7_doesGrow_58 : decode cX7_doesGrow 58 = .ok (.istore 5, 2) := by decide +kernel
theorem dX7_doesGrow_60 : decode cX7_doesGrow 60 = .ok (.aload_n 0, 1) := by decide +kernel
theorem dX7_doesGrow_61 : decode cX7_doesGrow 61 = .ok (.invokevirtual 188, 3) := by decide +kernel
theorem dX7_doesGrow_64 : decode cX7_doesGrow 64 = .ok (.iload 5, 2) := by decide +kernel
theorem dX7_doesGrow_66 : decode cX7_doesGrow 66 = .ok (.ireturn, 1) := by decide +kernel
theorem dX7_fewest_0 : decode cX7_fewest 0 = .ok (.iload_n 1, 1) := by decide +kernel
theorem dX7_fewest_1 : decode cX7_fewest 1 = .ok (.invokestatic 145, 3) := by decide +kernel
theorem dX7_fewest_4 : decode cX7_fewest 4 = .ok (.ifCond .eq 23, 3) := by decide +kernel
theorem dX7_fewest_7 : decode cX7_fewest 7 = .ok (.iload_n 2, 1) := by decide +kernel
theorem dX7_fewest_8 : decode cX7_fewest 8 = .ok (.iconst 1, 1) := by decide +kernel
theorem dX7_fewest_9 : decode cX7_fewest 9 = .ok (.bipush 9, 2) := by decide +kernel
theorem dX7_fewest_11 : decode cX7_fewest 11 = .ok (.invokestatic 75, 3) := by decide +kernel
theorem dX7_fewest_14 : decode cX7_fewest 14 = .ok (.ifCond .eq 13, 3) := by decide +kernel
theorem dX7_fewest_17 : decode cX7_fewest 17 = .ok (.iload_n 3, 1) := by decide +kernel
theorem dX7_fewest_18 : decode cX7_fewest 18 = .ok (.iconst 0, 1) := by decide +kernel
theorem dX7_fewest_19 : decode cX7_fewest 19 = .ok (.bipush 12, 2) := by decide +kernel
theorem dX7_fewest_21 : decode cX7_fewest 21 = .ok (.invokestatic 75, 3) := by decide +kernel
theorem dX7_fewest_24 : decode cX7_fewest 24 = .ok (.ifCond .ne 6, 3) := by decide +kernel
theorem dX7_fewest_27 : decode cX7_fewest 27 = .ok (.ldc 119, 2) := by decide +kernel
theorem dX7_fewest_29 : decode cX7_fewest 29 = .ok (.ireturn, 1) := by decide +kernel
theorem dX7_fewest_30 : decode cX7_fewest 30 = .ok (.aload_n 0, 1) := by decide +kernel
theorem dX7_fewest_31 : decode cX7_fewest 31 = .ok (.invokevirtual 185, 3) := by decide +kernel
theorem dX7_fewest_34 : decode cX7_fewest 34 = .ok (.ldc 191, 2) := by decide +kernel
theorem dX7_fewest_36 : decode cX7_fewest 36 = .ok (.istore 4, 2) := by decide +kernel
theorem dX7_fewest_38 : decode cX7_fewest 38 = .ok (.iconst 0, 1) := by decide +kernel
theorem dX7_fewest_39 : decode cX7_fewest 39 = .ok (.istore 5, 2) := by decide +kernel
theorem dX7_fewest_41 : decode cX7_fewest 41 = .ok (.iload 5, 2) := by decide +kernel
theorem dX7_fewest_43 : decode cX7_fewest 43 = .ok (.iconst 1, 1) := by decide +kernel
theorem dX7_fewest_44 : decode cX7_fewest 44 = .ok (.aload_n 0, 1) := by decide +kernel
theorem dX7_fewest_45 : decode cX7_fewest 45 = .ok (.getfield 9, 3) := by decide +kernel
theorem dX7_fewest_48 : decode cX7_fewest 48 = .ok (.iconst 1, 1) := by decide +kernel
theorem dX7_fewest_49 : decode cX7_fewest 49 = .ok (.iaload, 1) := by decide +kernel
theorem dX7_fewest_50 : decode cX7_fewest 50 = .ok (.ishl, 1) := by decide +kernel
theorem dX7_fewest_51 : decode cX7_fewest 51 = .ok (.if_icmp .ge 62, 3) := by decide +kernel
theorem dX7_fewest_54 : decode cX7_fewest 54 = .ok (.iload 4, 2) := by decide +kernel
theorem dX7_fewest_56 : decode cX7_fewest 56 = .ok (.ldc 191, 2) := by decide +kernel
theorem dX7_fewest_58 : decode cX7_fewest 58 = .ok (.if_icmp .eq 16, 3) := by decide +kernel
theorem dX7_fewest_61 : decode cX7_fewest 61 = .ok (.iload 5, 2) := by decide +kernel
theorem dX7_fewest_63 : decode cX7_fewest 63 = .ok (.invokestatic 99, 3) := by decide +kernel
theorem dX7_fewest_66 : decode cX7_fewest 66 = .ok (.iload 4, 2) := by decide +kernel
theorem dX7_fewest_68 : decode cX7_fewest 68 = .ok (.invokestatic 99, 3) := by decide +kernel
theorem dX7_fewest_71 : decode cX7_fewest 71 = .ok (.if_icmp .ge 7, 3) := by decide +kernel
theorem dX7_fewest_74 : decode cX7_fewest 74 = .ok (.iconst 1, 1) := by decide +kernel
theorem dX7_fewest_75 : decode cX7_fewest 75 = .ok (.goto 4, 3) := by decide +kernel
theorem dX7_fewest_78 : decode cX7_fewest 78 = .ok (.iconst 0, 1) := by decide +kernel
theorem dX7_fewest_79 : decode cX7_fewest 79 = .ok (.istore 6, 2) := by decide +kernel
theorem dX7_fewest_81 : decode cX7_fewest 81 = .ok (.iload 6, 2) := by decide +kernel
theorem dX7_fewest_83 : decode cX7_fewest 83 = .ok (.ifCond .eq 20, 3) := by decide +kernel
theorem dX7_fewest_86 : decode cX7_fewest 86 = .ok (.aload_n 0, 1) := by decide +kernel
theorem dX7_fewest_87 : decode cX7_fewest 87 = .ok (.iload 5, 2) := by decide +kernel
theorem dX7_fewest_89 : decode cX7_fewest 89 = .ok (.iload_n 1, 1) := by decide +kernel
theorem dX7_fewest_90 : decode cX7_fewest 90 = .ok (.iload_n 2, 1) := by decide +kernel
theorem dX7_fewest_91 : decode cX7_fewest 91 = .ok (.iload_n 3, 1) := by decide +kernel
theorem dX7_fewest_92 : decode cX7_fewest 92 = .ok (.invokevirtual 195, 3) := by decide +kernel
theorem dX7_fewest_95 : decode cX7_fewest 95 = .ok (.ifCond .eq 8, 3) := by decide +kernel
theorem dX7_fewest_98 : decode cX7_fewest 98 = .ok (.iload 5, 2) := by decide +kernel
theorem dX7_fewest_100 : decode cX7_fewest 100 = .ok (.goto 5, 3) := by decide +kernel
theorem dX7_fewest_103 : decode cX7_fewest 103 = .ok (.iload 4, 2) := by decide +kernel
theorem dX7_fewest_105 : decode cX7_fewest 105 = .ok (.istore 4, 2) := by decide +kernel
theorem dX7_fewest_107 : decode cX7_fewest 107 = .ok (.iinc 5 1, 3) := by decide +kernel
theorem dX7_fewest_110 : decode cX7_fewest 110 = .ok (.goto (-69), 3) := by decide +kernel
theorem dX7_fewest_113 : decode cX7_fewest 113 = .ok (.iload 4, 2) := by decide +kernel
theorem dX7_fewest_115 : decode cX7_fewest 115 = .ok (.ireturn, 1) := by decide +kernel
theorem dX7_house_0 : decode cX7_house 0 = .ok (.aload_n 0, 1) := by decide +kernel
theorem dX7_house_1 : decode cX7_house 1 = .ok (.iload_n 1, 1) := by decide +kernel
theorem dX7_house_2 : decode cX7_house 2 = .ok (.invokevirtual 128, 3) := by decide +kernel
theorem dX7_house_5 : decode cX7_house 5 = .ok (.ifCond .eq 22, 3) := by decide +kernel
theorem dX7_house_8 : decode cX7_house 8 = .ok (.iload_n 2, 1) := by decide +kernel
theorem dX7_house_9 : decode cX7_house 9 = .ok (.iconst 1, 1) := by decide +kernel
theorem dX7_house_10 : decode cX7_house 10 = .ok (.bipush 60, 2) := by decide +kernel
theorem dX7_house_12 : decode cX7_house 12 = .ok (.invokestatic 75, 3) := by decide +kernel
theorem dX7_house_15 : decode cX7_house 15 = .ok (.ifCond .eq 12, 3) := by decide +kernel
theorem dX7_house_18 : decode cX7_house 18 = .ok (.iload_n 3, 1) := by decide +kernel
theorem dX7_house_19 : decode cX7_house 19 = .ok (.iconst 0, 1) := by decide +kernel
theorem dX7_house_20 : decode cX7_house 20 = .ok (.iconst 1, 1) := by decide +kernel
theorem dX7_house_21 : decode cX7_house 21 = .ok (.invokestatic 75, 3) := by decide +kernel
theorem dX7_house_24 : decode cX7_house 24 = .ok (.ifCond .ne 6, 3) := by decide +kernel
theorem dX7_house_27 : decode cX7_house 27 = .ok (.ldc 119, 2) := by decide +kernel
theorem dX7_house_29 : decode cX7_house 29 = .ok (.ireturn, 1) := by decide +kernel
theorem dX7_house_30 : decode cX7_house 30 = .ok (.aload_n 0, 1) := by decide +kernel
theorem dX7_house_31 : decode cX7_house 31 = .ok (.invokevirtual 185, 3) := by decide +kernel
theorem dX7_house_34 : decode cX7_house 34 = .ok (.iconst 0, 1) := by decide +kernel
theorem dX7_house_35 : decode cX7_house 35 = .ok (.istore 4, 2) := by decide +kernel
theorem dX7_house_37 : decode cX7_house 37 = .ok (.iconst (-1), 1) := by decide +kernel
theorem dX7_house_38 : decode cX7_house 38 = .ok (.istore 5, 2) := by decide +kernel
theorem dX7_house_40 : decode cX7_house 40 = .ok (.iconst 0, 1) := by decide +kernel
theorem dX7_house_41 : decode cX7_house 41 = .ok (.istore 6, 2) := by decide +kernel
theorem dX7_house_43 : decode cX7_house 43 = .ok (.iload 6, 2) := by decide +kernel
theorem dX7_house_45 : decode cX7_house 45 = .ok (.bipush 8, 2) := by decide +kernel
theorem dX7_house_47 : decode cX7_house 47 = .ok (.if_icmp .ge 66, 3) := by decide +kernel
theorem dX7_house_50 : decode cX7_house 50 = .ok (.aload_n 0, 1) := by decide +kernel
theorem dX7_house_51 : decode cX7_house 51 = .ok (.iload_n 1, 1) := by decide +kernel
theorem dX7_house_52 : decode cX7_house 52 = .ok (.iconst 1, 1) := by decide +kernel
theorem dX7_house_53 : decode cX7_house 53 = .ok (.iload 6, 2) := by decide +kernel
theorem dX7_house_55 : decode cX7_house 55 = .ok (.invokevirtual 115, 3) := by decide +kernel
theorem dX7_house_58 : decode cX7_house 58 = .ok (.aload_n 0, 1) := by decide +kernel
theorem dX7_house_59 : decode cX7_house 59 = .ok (.iload_n 2, 1) := by decide +kernel
theorem dX7_house_60 : decode cX7_house 60 = .ok (.invokevirtual 172, 3) := by decide +kernel
theorem dX7_house_63 : decode cX7_house 63 = .ok (.aload_n 0, 1) := by decide +kernel
theorem dX7_house_64 : decode cX7_house 64 = .ok (.getfield 9, 3) := by decide +kernel
theorem dX7_house_67 : decode cX7_house 67 = .ok (.iconst 3, 1) := by decide +kernel
theorem dX7_house_68 : decode cX7_house 68 = .ok (.iaload, 1) := by decide +kernel
theorem dX7_house_69 : decode cX7_house 69 = .ok (.istore 7, 2) := by decide +kernel
theorem dX7_house_71 : decode cX7_house 71 = .ok (.iload 7, 2) := by decide +kernel
theorem dX7_house_73 : decode cX7_house 73 = .ok (.iload 5, 2) := by decide +kernel
theorem dX7_house_75 : decode cX7_house 75 = .ok (.if_icmp .le 8, 3) := by decide +kernel
theorem dX7_house_78 : decode cX7_house 78 = .ok (.iload 6, 2) := by decide +kernel
theorem dX7_house_80 : decode cX7_house 80 = .ok (.goto 5, 3) := by decide +kernel
theorem dX7_house_83 : decode cX7_house 83 = .ok (.iload 4, 2) := by decide +kernel
theorem dX7_house_85 : decode cX7_house 85 = .ok (.istore 4, 2) := by decide +kernel
theorem dX7_house_87 : decode cX7_house 87 = .ok (.iload 7, 2) := by decide +kernel
theorem dX7_house_89 : decode cX7_house 89 = .ok (.iload 5, 2) := by decide +kernel
theorem dX7_house_91 : decode cX7_house 91 = .ok (.if_icmp .le 8, 3) := by decide +kernel
theorem dX7_house_94 : decode cX7_house 94 = .ok (.iload 7, 2) := by decide +kernel
theorem dX7_house_96 : decode cX7_house 96 = .ok (.goto 5, 3) := by decide +kernel
theorem dX7_house_99 : decode cX7_house 99 = .ok (.iload 5, 2) := by decide +kernel
theorem dX7_house_101 : decode cX7_house 101 = .ok (.istore 5, 2) := by decide +kernel
theorem dX7_house_103 : decode cX7_house 103 = .ok (.aload_n 0, 1) := by decide +kernel
theorem dX7_house_104 : decode cX7_house 104 = .ok (.invokevirtual 188, 3) := by decide +kernel
theorem dX7_house_107 : decode cX7_house 107 = .ok (.iinc 6 1, 3) := by decide +kernel
theorem dX7_house_110 : decode cX7_house 110 = .ok (.goto (-67), 3) := by decide +kernel
theorem dX7_house_113 : decode cX7_house 113 = .ok (.iload_n 3, 1) := by decide +kernel
theorem dX7_house_114 : decode cX7_house 114 = .ok (.ifCond .ne 8, 3) := by decide +kernel
theorem dX7_house_117 : decode cX7_house 117 = .ok (.iload 4, 2) := by decide +kernel
theorem dX7_house_119 : decode cX7_house 119 = .ok (.goto 5, 3) := by decide +kernel
theorem dX7_house_122 : decode cX7_house 122 = .ok (.iload 5, 2) := by decide +kernel
theorem dX7_house_124 : decode cX7_house 124 = .ok (.ireturn, 1) := by decide +kernel
theorem dX7_becomes_0 : decode cX7_becomes 0 = .ok (.aload_n 0, 1) := by decide +kernel
theorem dX7_becomes_1 : decode cX7_becomes 1 = .ok (.iload_n 1, 1) := by decide +kernel
theorem dX7_becomes_2 : decode cX7_becomes 2 = .ok (.invokevirtual 128, 3) := by decide +kernel
theorem dX7_becomes_5 : decode cX7_becomes 5 = .ok (.ifCond .eq 22, 3) := by decide +kernel
theorem dX7_becomes_8 : decode cX7_becomes 8 = .ok (.iload_n 2, 1) := by decide +kernel
theorem dX7_becomes_9 : decode cX7_becomes 9 = .ok (.iconst 1, 1) := by decide +kernel
theorem dX7_becomes_10 : decode cX7_becomes 10 = .ok (.bipush 60, 2) := by decide +kernel
theorem dX7_becomes_12 : decode cX7_becomes 12 = .ok (.invokestatic 75, 3) := by decide +kernel
theorem dX7_becomes_15 : decode cX7_becomes 15 = .ok (.ifCond .eq 12, 3) := by decide +kernel
theorem dX7_becomes_18 : decode cX7_becomes 18 = .ok (.iload_n 3, 1) := by decide +kernel
theorem dX7_becomes_19 : decode cX7_becomes 19 = .ok (.iconst 0, 1) := by decide +kernel
theorem dX7_becomes_20 : decode cX7_becomes 20 = .ok (.iconst 1, 1) := by decide +kernel
theorem dX7_becomes_21 : decode cX7_becomes 21 = .ok (.invokestatic 75, 3) := by decide +kernel
theorem dX7_becomes_24 : decode cX7_becomes 24 = .ok (.ifCond .ne 6, 3) := by decide +kernel
theorem dX7_becomes_27 : decode cX7_becomes 27 = .ok (.ldc 119, 2) := by decide +kernel
theorem dX7_becomes_29 : decode cX7_becomes 29 = .ok (.ireturn, 1) := by decide +kernel
theorem dX7_becomes_30 : decode cX7_becomes 30 = .ok (.aload_n 0, 1) := by decide +kernel
theorem dX7_becomes_31 : decode cX7_becomes 31 = .ok (.invokevirtual 185, 3) := by decide +kernel
theorem dX7_becomes_34 : decode cX7_becomes 34 = .ok (.iconst 0, 1) := by decide +kernel
theorem dX7_becomes_35 : decode cX7_becomes 35 = .ok (.istore 4, 2) := by decide +kernel
theorem dX7_becomes_37 : decode cX7_becomes 37 = .ok (.iconst (-1), 1) := by decide +kernel
theorem dX7_becomes_38 : decode cX7_becomes 38 = .ok (.istore 5, 2) := by decide +kernel
theorem dX7_becomes_40 : decode cX7_becomes 40 = .ok (.iconst 0, 1) := by decide +kernel
theorem dX7_becomes_41 : decode cX7_becomes 41 = .ok (.istore 6, 2) := by decide +kernel
theorem dX7_becomes_43 : decode cX7_becomes 43 = .ok (.iload 6, 2) := by decide +kernel
theorem dX7_becomes_45 : decode cX7_becomes 45 = .ok (.iconst 5, 1) := by decide +kernel
theorem dX7_becomes_46 : decode cX7_becomes 46 = .ok (.if_icmp .gt 76, 3) := by decide +kernel
theorem dX7_becomes_49 : decode cX7_becomes 49 = .ok (.aload_n 0, 1) := by decide +kernel
theorem dX7_becomes_50 : decode cX7_becomes 50 = .ok (.iload_n 1, 1) := by decide +kernel
theorem dX7_becomes_51 : decode cX7_becomes 51 = .ok (.iconst 0, 1) := by decide +kernel
theorem dX7_becomes_52 : decode cX7_becomes 52 = .ok (.iload 6, 2) := by decide +kernel
theorem dX7_becomes_54 : decode cX7_becomes 54 = .ok (.invokevirtual 115, 3) := by decide +kernel
theorem dX7_becomes_57 : decode cX7_becomes 57 = .ok (.aload_n 0, 1) := by decide +kernel
theorem dX7_becomes_58 : decode cX7_becomes 58 = .ok (.iload_n 2, 1) := by decide +kernel
theorem dX7_becomes_59 : decode cX7_becomes 59 = .ok (.invokevirtual 172, 3) := by decide +kernel
theorem dX7_becomes_62 : decode cX7_becomes 62 = .ok (.aload_n 0, 1) := by decide +kernel
theorem dX7_becomes_63 : decode cX7_becomes 63 = .ok (.getfield 9, 3) := by decide +kernel
theorem dX7_becomes_66 : decode cX7_becomes 66 = .ok (.iconst 4, 1) := by decide +kernel
theorem dX7_becomes_67 : decode cX7_becomes 67 = .ok (.iaload, 1) := by decide +kernel
theorem dX7_becomes_68 : decode cX7_becomes 68 = .ok (.istore 7, 2) := by decide +kernel
theorem dX7_becomes_70 : decode cX7_becomes 70 = .ok (.iload 5, 2) := by decide +kernel
theorem dX7_becomes_72 : decode cX7_becomes 72 = .ok (.ifCond .lt 10, 3) := by decide +kernel
theorem dX7_becomes_75 : decode cX7_becomes 75 = .ok (.iload 7, 2) := by decide +kernel
theorem dX7_becomes_77 : decode cX7_becomes 77 = .ok (.iload 5, 2) := by decide +kernel
theorem dX7_becomes_79 : decode cX7_becomes 79 = .ok (.if_icmp .ge 8, 3) := by decide +kernel
theorem dX7_becomes_82 : decode cX7_becomes 82 = .ok (.iload 6, 2) := by decide +kernel
theorem dX7_becomes_84 : decode cX7_becomes 84 = .ok (.goto 5, 3) := by decide +kernel
theorem dX7_becomes_87 : decode cX7_becomes 87 = .ok (.iload 4, 2) := by decide +kernel
theorem dX7_becomes_89 : decode cX7_becomes 89 = .ok (.istore 4, 2) := by decide +kernel
theorem dX7_becomes_91 : decode cX7_becomes 91 = .ok (.iload 5, 2) := by decide +kernel
theorem dX7_becomes_93 : decode cX7_becomes 93 = .ok (.ifCond .lt 10, 3) := by decide +kernel
theorem dX7_becomes_96 : decode cX7_becomes 96 = .ok (.iload 7, 2) := by decide +kernel
theorem dX7_becomes_98 : decode cX7_becomes 98 = .ok (.iload 5, 2) := by decide +kernel
theorem dX7_becomes_100 : decode cX7_becomes 100 = .ok (.if_icmp .ge 8, 3) := by decide +kernel
theorem dX7_becomes_103 : decode cX7_becomes 103 = .ok (.iload 7, 2) := by decide +kernel
theorem dX7_becomes_105 : decode cX7_becomes 105 = .ok (.goto 5, 3) := by decide +kernel
theorem dX7_becomes_108 : decode cX7_becomes 108 = .ok (.iload 5, 2) := by decide +kernel
theorem dX7_becomes_110 : decode cX7_becomes 110 = .ok (.istore 5, 2) := by decide +kernel
theorem dX7_becomes_112 : decode cX7_becomes 112 = .ok (.aload_n 0, 1) := by decide +kernel
theorem dX7_becomes_113 : decode cX7_becomes 113 = .ok (.invokevirtual 188, 3) := by decide +kernel
theorem dX7_becomes_116 : decode cX7_becomes 116 = .ok (.iinc 6 1, 3) := by decide +kernel
theorem dX7_becomes_119 : decode cX7_becomes 119 = .ok (.goto (-76), 3) := by decide +kernel
theorem dX7_becomes_122 : decode cX7_becomes 122 = .ok (.iload_n 3, 1) := by decide +kernel
theorem dX7_becomes_123 : decode cX7_becomes 123 = .ok (.ifCond .ne 8, 3) := by decide +kernel
theorem dX7_becomes_126 : decode cX7_becomes 126 = .ok (.iload 4, 2) := by decide +kernel
theorem dX7_becomes_128 : decode cX7_becomes 128 = .ok (.goto 5, 3) := by decide +kernel
theorem dX7_becomes_131 : decode cX7_becomes 131 = .ok (.iload 5, 2) := by decide +kernel
theorem dX7_becomes_133 : decode cX7_becomes 133 = .ok (.ireturn, 1) := by decide +kernel
theorem dX7_like_0 : decode cX7_like 0 = .ok (.iload_n 1, 1) := by decide +kernel
theorem dX7_like_1 : decode cX7_like 1 = .ok (.invokestatic 199, 3) := by decide +kernel
theorem dX7_like_4 : decode cX7_like 4 = .ok (.ifCond .eq 12, 3) := by decide +kernel
theorem dX7_like_7 : decode cX7_like 7 = .ok (.iload_n 2, 1) := by decide +kernel
theorem dX7_like_8 : decode cX7_like 8 = .ok (.iconst 0, 1) := by decide +kernel
theorem dX7_like_9 : decode cX7_like 9 = .ok (.iconst 1, 1) := by decide +kernel
theorem dX7_like_10 : decode cX7_like 10 = .ok (.invokestatic 75, 3) := by decide +kernel
theorem dX7_like_13 : decode cX7_like 13 = .ok (.ifCond .ne 6, 3) := by decide +kernel
theorem dX7_like_16 : decode cX7_like 16 = .ok (.ldc 119, 2) := by decide +kernel
theorem dX7_like_18 : decode cX7_like 18 = .ok (.ireturn, 1) := by decide +kernel
theorem dX7_like_19 : decode cX7_like 19 = .ok (.aload_n 0, 1) := by decide +kernel
theorem dX7_like_20 : decode cX7_like 20 = .ok (.getfield 48, 3) := by decide +kernel
theorem dX7_like_23 : decode cX7_like 23 = .ok (.iload_n 1, 1) := by decide +kernel
theorem dX7_like_24 : decode cX7_like 24 = .ok (.iaload, 1) := by decide +kernel
theorem dX7_like_25 : decode cX7_like 25 = .ok (.ifCond .ge 6, 3) := by decide +kernel
theorem dX7_like_28 : decode cX7_like 28 = .ok (.ldc 202, 2) := by decide +kernel
theorem dX7_like_30 : decode cX7_like 30 = .ok (.ireturn, 1) := by decide +kernel
theorem dX7_like_31 : decode cX7_like 31 = .ok (.aload_n 0, 1) := by decide +kernel
theorem dX7_like_32 : decode cX7_like 32 = .ok (.invokevirtual 185, 3) := by decide +kernel
theorem dX7_like_35 : decode cX7_like 35 = .ok (.iconst 0, 1) := by decide +kernel
theorem dX7_like_36 : decode cX7_like 36 = .ok (.istore_n 3, 1) := by decide +kernel
theorem dX7_like_37 : decode cX7_like 37 = .ok (.iload_n 3, 1) := by decide +kernel
theorem dX7_like_38 : decode cX7_like 38 = .ok (.bipush 6, 2) := by decide +kernel
theorem dX7_like_40 : decode cX7_like 40 = .ok (.if_icmp .ge 16, 3) := by decide +kernel
theorem dX7_like_43 : decode cX7_like 43 = .ok (.aload_n 0, 1) := by decide +kernel
theorem dX7_like_44 : decode cX7_like 44 = .ok (.getfield 19, 3) := by decide +kernel
theorem dX7_like_47 : decode cX7_like 47 = .ok (.iload_n 3, 1) := by decide +kernel
theorem dX7_like_48 : decode cX7_like 48 = .ok (.iconst 0, 1) := by decide +kernel
theorem dX7_like_49 : decode cX7_like 49 = .ok (.iastore, 1) := by decide +kernel
theorem dX7_like_50 : decode cX7_like 50 = .ok (.iinc 3 1, 3) := by decide +kernel
theorem dX7_like_53 : decode cX7_like 53 = .ok (.goto (-16), 3) := by decide +kernel
theorem dX7_like_56 : decode cX7_like 56 = .ok (.iconst 0, 1) := by decide +kernel
theorem dX7_like_57 : decode cX7_like 57 = .ok (.istore_n 3, 1) := by decide +kernel
theorem dX7_like_58 : decode cX7_like 58 = .ok (.iload_n 3, 1) := by decide +kernel
theorem dX7_like_59 : decode cX7_like 59 = .ok (.aload_n 0, 1) := by decide +kernel
theorem dX7_like_60 : decode cX7_like 60 = .ok (.getfield 51, 3) := by decide +kernel
theorem dX7_like_63 : decode cX7_like 63 = .ok (.iload_n 1, 1) := by decide +kernel
theorem dX7_like_64 : decode cX7_like 64 = .ok (.iaload, 1) := by decide +kernel
theorem dX7_like_65 : decode cX7_like 65 = .ok (.if_icmp .ge 71, 3) := by decide +kernel
theorem dX7_like_68 : decode cX7_like 68 = .ok (.aload_n 0, 1) := by decide +kernel
theorem dX7_like_69 : decode cX7_like 69 = .ok (.getfield 54, 3) := by decide +kernel
theorem dX7_like_72 : decode cX7_like 72 = .ok (.bipush 24, 2) := by decide +kernel
theorem dX7_like_74 : decode cX7_like 74 = .ok (.iload_n 1, 1) := by decide +kernel
theorem dX7_like_75 : decode cX7_like 75 = .ok (.imul, 1) := by decide +kernel
theorem dX7_like_76 : decode cX7_like 76 = .ok (.iload_n 3, 1) := by decide +kernel
theorem dX7_like_77 : decode cX7_like 77 = .ok (.iadd, 1) := by decide +kernel
theorem dX7_like_78 : decode cX7_like 78 = .ok (.iaload, 1) := by decide +kernel
theorem dX7_like_79 : decode cX7_like 79 = .ok (.istore 4, 2) := by decide +kernel
theorem dX7_like_81 : decode cX7_like 81 = .ok (.iconst 0, 1) := by decide +kernel
theorem dX7_like_82 : decode cX7_like 82 = .ok (.istore 5, 2) := by decide +kernel
theorem dX7_like_84 : decode cX7_like 84 = .ok (.iload 5, 2) := by decide +kernel
theorem dX7_like_86 : decode cX7_like 86 = .ok (.bipush 6, 2) := by decide +kernel
theorem dX7_like_88 : decode cX7_like 88 = .ok (.if_icmp .ge 38, 3) := by decide +kernel
theorem dX7_like_91 : decode cX7_like 91 = .ok (.iload 4, 2) := by decide +kernel
theorem dX7_like_93 : decode cX7_like 93 = .ok (.ldc 191, 2) := by decide +kernel
theorem dX7_like_95 : decode cX7_like 95 = .ok (.if_icmp .eq 31, 3) := by decide +kernel
theorem dX7_like_98 : decode cX7_like 98 = .ok (.aload_n 0, 1) := by decide +kernel
theorem dX7_like_99 : decode cX7_like 99 = .ok (.getfield 19, 3) := by decide +kernel
theorem dX7_like_102 : decode cX7_like 102 = .ok (.iload 5, 2) := by decide +kernel
theorem dX7_like_104 : decode cX7_like 104 = .ok (.dup2, 1) := by decide +kernel
theorem dX7_like_105 : decode cX7_like 105 = .ok (.iaload, 1) := by decide +kernel
theorem dX7_like_106 : decode cX7_like 106 = .ok (.iload 4, 2) := by decide +kernel
theorem dX7_like_108 : decode cX7_like 108 = .ok (.aload_n 0, 1) := by decide +kernel
theorem dX7_like_109 : decode cX7_like 109 = .ok (.iload 5, 2) := by decide +kernel
theorem dX7_like_111 : decode cX7_like 111 = .ok (.invokevirtual 93, 3) := by decide +kernel
theorem dX7_like_114 : decode cX7_like 114 = .ok (.isub, 1) := by decide +kernel
theorem dX7_like_115 : decode cX7_like 115 = .ok (.invokestatic 112, 3) := by decide +kernel
theorem dX7_like_118 : decode cX7_like 118 = .ok (.iadd, 1) := by decide +kernel
theorem dX7_like_119 : decode cX7_like 119 = .ok (.iastore, 1) := by decide +kernel
theorem dX7_like_120 : decode cX7_like 120 = .ok (.iinc 5 1, 3) := by decide +kernel
theorem dX7_like_123 : decode cX7_like 123 = .ok (.goto (-39), 3) := by decide +kernel
theorem dX7_like_126 : decode cX7_like 126 = .ok (.aload_n 0, 1) := by decide +kernel
theorem dX7_like_127 : decode cX7_like 127 = .ok (.invokevirtual 169, 3) := by decide +kernel
theorem dX7_like_130 : decode cX7_like 130 = .ok (.iinc 3 1, 3) := by decide +kernel
theorem dX7_like_133 : decode cX7_like 133 = .ok (.goto (-75), 3) := by decide +kernel
theorem dX7_like_136 : decode cX7_like 136 = .ok (.aload_n 0, 1) := by decide +kernel
theorem dX7_like_137 : decode cX7_like 137 = .ok (.invokevirtual 188, 3) := by decide +kernel
theorem dX7_like_140 : decode cX7_like 140 = .ok (.iconst 0, 1) := by decide +kernel
theorem dX7_like_141 : decode cX7_like 141 = .ok (.istore_n 3, 1) := by decide +kernel
theorem dX7_like_142 : decode cX7_like 142 = .ok (.iconst 1, 1) := by decide +kernel
theorem dX7_like_143 : decode cX7_like 143 = .ok (.istore 4, 2) := by decide +kernel
theorem dX7_like_145 : decode cX7_like 145 = .ok (.iload 4, 2) := by decide +kernel
theorem dX7_like_147 : decode cX7_like 147 = .ok (.bipush 6, 2) := by decide +kernel
theorem dX7_like_149 : decode cX7_like 149 = .ok (.if_icmp .ge 32, 3) := by decide +kernel
theorem dX7_like_152 : decode cX7_like 152 = .ok (.aload_n 0, 1) := by decide +kernel
theorem dX7_like_153 : decode cX7_like 153 = .ok (.getfield 19, 3) := by decide +kernel
theorem dX7_like_156 : decode cX7_like 156 = .ok (.iload 4, 2) := by decide +kernel
theorem dX7_like_158 : decode cX7_like 158 = .ok (.iaload, 1) := by decide +kernel
theorem dX7_like_159 : decode cX7_like 159 = .ok (.aload_n 0, 1) := by decide +kernel
theorem dX7_like_160 : decode cX7_like 160 = .ok (.getfield 19, 3) := by decide +kernel
theorem dX7_like_163 : decode cX7_like 163 = .ok (.iload_n 3, 1) := by decide +kernel
theorem dX7_like_164 : decode cX7_like 164 = .ok (.iaload, 1) := by decide +kernel
theorem dX7_like_165 : decode cX7_like 165 = .ok (.if_icmp .ge 8, 3) := by decide +kernel
theorem dX7_like_168 : decode cX7_like 168 = .ok (.iload 4, 2) := by decide +kernel
theorem dX7_like_170 : decode cX7_like 170 = .ok (.goto 4, 3) := by decide +kernel
theorem dX7_like_173 : decode cX7_like 173 = .ok (.iload_n 3, 1) := by decide +kernel
theorem dX7_like_174 : decode cX7_like 174 = .ok (.istore_n 3, 1) := by decide +kernel
theorem dX7_like_175 : decode cX7_like 175 = .ok (.iinc 4 1, 3) := by decide +kernel
theorem dX7_like_178 : decode cX7_like 178 = .ok (.goto (-33), 3) := by decide +kernel
theorem dX7_like_181 : decode cX7_like 181 = .ok (.iload_n 2, 1) := by decide +kernel
theorem dX7_like_182 : decode cX7_like 182 = .ok (.ifCond .ne 7, 3) := by decide +kernel
theorem dX7_like_185 : decode cX7_like 185 = .ok (.iload_n 3, 1) := by decide +kernel
theorem dX7_like_186 : decode cX7_like 186 = .ok (.goto 9, 3) := by decide +kernel
theorem dX7_like_189 : decode cX7_like 189 = .ok (.aload_n 0, 1) := by decide +kernel
theorem dX7_like_190 : decode cX7_like 190 = .ok (.getfield 19, 3) := by decide +kernel
theorem dX7_like_193 : decode cX7_like 193 = .ok (.iload_n 3, 1) := by decide +kernel
theorem dX7_like_194 : decode cX7_like 194 = .ok (.iaload, 1) := by decide +kernel
theorem dX7_like_195 : decode cX7_like 195 = .ok (.ireturn, 1) := by decide +kernel
theorem dX7_fee_0 : decode cX7_fee 0 = .ok (.aload_n 0, 1) := by decide +kernel
theorem dX7_fee_1 : decode cX7_fee 1 = .ok (.iconst 1, 1) := by decide +kernel
theorem dX7_fee_2 : decode cX7_fee 2 = .ok (.invokevirtual 102, 3) := by decide +kernel
theorem dX7_fee_5 : decode cX7_fee 5 = .ok (.istore_n 1, 1) := by decide +kernel
theorem dX7_fee_6 : decode cX7_fee 6 = .ok (.aload_n 0, 1) := by decide +kernel
theorem dX7_fee_7 : decode cX7_fee 7 = .ok (.getfield 45, 3) := by decide +kernel
theorem dX7_fee_10 : decode cX7_fee 10 = .ok (.iconst 0, 1) := by decide +kernel
theorem dX7_fee_11 : decode cX7_fee 11 = .ok (.aload_n 0, 1) := by decide +kernel
theorem dX7_fee_12 : decode cX7_fee 12 = .ok (.getfield 9, 3) := by decide +kernel
theorem dX7_fee_15 : decode cX7_fee 15 = .ok (.iconst 3, 1) := by decide +kernel
theorem dX7_fee_16 : decode cX7_fee 16 = .ok (.iaload, 1) := by decide +kernel
theorem dX7_fee_17 : decode cX7_fee 17 = .ok (.iastore, 1) := by decide +kernel
theorem dX7_fee_18 : decode cX7_fee 18 = .ok (.aload_n 0, 1) := by decide +kernel
theorem dX7_fee_19 : decode cX7_fee 19 = .ok (.getfield 45, 3) := by decide +kernel
theorem dX7_fee_22 : decode cX7_fee 22 = .ok (.iconst 1, 1) := by decide +kernel
theorem dX7_fee_23 : decode cX7_fee 23 = .ok (.aload_n 0, 1) := by decide +kernel
theorem dX7_fee_24 : decode cX7_fee 24 = .ok (.getfield 9, 3) := by decide +kernel
theorem dX7_fee_27 : decode cX7_fee 27 = .ok (.iconst 4, 1) := by decide +kernel
theorem dX7_fee_28 : decode cX7_fee 28 = .ok (.iaload, 1) := by decide +kernel
theorem dX7_fee_29 : decode cX7_fee 29 = .ok (.iastore, 1) := by decide +kernel
theorem dX7_fee_30 : decode cX7_fee 30 = .ok (.iload_n 1, 1) := by decide +kernel
theorem dX7_fee_31 : decode cX7_fee 31 = .ok (.ifCond .ge 12, 3) := by decide +kernel
theorem dX7_fee_34 : decode cX7_fee 34 = .ok (.aload_n 0, 1) := by decide +kernel
theorem dX7_fee_35 : decode cX7_fee 35 = .ok (.getfield 9, 3) := by decide +kernel
theorem dX7_fee_38 : decode cX7_fee 38 = .ok (.iconst 3, 1) := by decide +kernel
theorem dX7_fee_39 : decode cX7_fee 39 = .ok (.iaload, 1) := by decide +kernel
theorem dX7_fee_40 : decode cX7_fee 40 = .ok (.goto 8, 3) := by decide +kernel
theorem dX7_fee_43 : decode cX7_fee 43 = .ok (.aload_n 0, 1) := by decide +kernel
theorem dX7_fee_44 : decode cX7_fee 44 = .ok (.iload_n 1, 1) := by decide +kernel
theorem dX7_fee_45 : decode cX7_fee 45 = .ok (.invokevirtual 105, 3) := by decide +kernel
theorem dX7_fee_48 : decode cX7_fee 48 = .ok (.ireturn, 1) := by decide +kernel
theorem dX7_fine_0 : decode cX7_fine 0 = .ok (.aload_n 0, 1) := by decide +kernel
theorem dX7_fine_1 : decode cX7_fine 1 = .ok (.iload_n 1, 1) := by decide +kernel
theorem dX7_fine_2 : decode cX7_fine 2 = .ok (.invokevirtual 128, 3) := by decide +kernel
theorem dX7_fine_5 : decode cX7_fine 5 = .ok (.ifCond .ne 6, 3) := by decide +kernel
theorem dX7_fine_8 : decode cX7_fine 8 = .ok (.ldc 119, 2) := by decide +kernel
theorem dX7_fine_10 : decode cX7_fine 10 = .ok (.ireturn, 1) := by decide +kernel
theorem dX7_fine_11 : decode cX7_fine 11 = .ok (.aload_n 0, 1) := by decide +kernel
theorem dX7_fine_12 : decode cX7_fine 12 = .ok (.iconst 2, 1) := by decide +kernel
theorem dX7_fine_13 : decode cX7_fine 13 = .ok (.invokevirtual 102, 3) := by decide +kernel
theorem dX7_fine_16 : decode cX7_fine 16 = .ok (.istore_n 2, 1) := by decide +kernel
theorem dX7_fine_17 : decode cX7_fine 17 = .ok (.aload_n 0, 1) := by decide +kernel
theorem dX7_fine_18 : decode cX7_fine 18 = .ok (.getfield 45, 3) := by decide +kernel
theorem dX7_fine_21 : decode cX7_fine 21 = .ok (.iconst 0, 1) := by decide +kernel
theorem dX7_fine_22 : decode cX7_fine 22 = .ok (.aload_n 0, 1) := by decide +kernel
theorem dX7_fine_23 : decode cX7_fine 23 = .ok (.iload_n 1, 1) := by decide +kernel
theorem dX7_fine_24 : decode cX7_fine 24 = .ok (.iconst 2, 1) := by decide +kernel
theorem dX7_fine_25 : decode cX7_fine 25 = .ok (.invokevirtual 79, 3) := by decide +kernel
theorem dX7_fine_28 : decode cX7_fine 28 = .ok (.iastore, 1) := by decide +kernel
theorem dX7_fine_29 : decode cX7_fine 29 = .ok (.aload_n 0, 1) := by decide +kernel
theorem dX7_fine_30 : decode cX7_fine 30 = .ok (.getfield 45, 3) := by decide +kernel
theorem dX7_fine_33 : decode cX7_fine 33 = .ok (.iconst 1, 1) := by decide +kernel
theorem dX7_fine_34 : decode cX7_fine 34 = .ok (.aload_n 0, 1) := by decide +kernel
theorem dX7_fine_35 : decode cX7_fine 35 = .ok (.iload_n 1, 1) := by decide +kernel
theorem dX7_fine_36 : decode cX7_fine 36 = .ok (.iconst 3, 1) := by decide +kernel
theorem dX7_fine_37 : decode cX7_fine 37 = .ok (.invokevirtual 79, 3) := by decide +kernel
theorem dX7_fine_40 : decode cX7_fine 40 = .ok (.iastore, 1) := by decide +kernel
theorem dX7_fine_41 : decode cX7_fine 41 = .ok (.iload_n 2, 1) := by decide +kernel
theorem dX7_fine_42 : decode cX7_fine 42 = .ok (.ifCond .ge 12, 3) := by decide +kernel
theorem dX7_fine_45 : decode cX7_fine 45 = .ok (.aload_n 0, 1) := by decide +kernel
theorem dX7_fine_46 : decode cX7_fine 46 = .ok (.iload_n 1, 1) := by decide +kernel
theorem dX7_fine_47 : decode cX7_fine 47 = .ok (.iconst 3, 1) := by decide +kernel
theorem dX7_fine_48 : decode cX7_fine 48 = .ok (.invokevirtual 79, 3) := by decide +kernel
theorem dX7_fine_51 : decode cX7_fine 51 = .ok (.goto 8, 3) := by decide +kernel
theorem dX7_fine_54 : decode cX7_fine 54 = .ok (.aload_n 0, 1) := by decide +kernel
theorem dX7_fine_55 : decode cX7_fine 55 = .ok (.iload_n 2, 1) := by decide +kernel
theorem dX7_fine_56 : decode cX7_fine 56 = .ok (.invokevirtual 105, 3) := by decide +kernel
theorem dX7_fine_59 : decode cX7_fine 59 = .ok (.ireturn, 1) := by decide +kernel
theorem dX7_feed_0 : decode cX7_feed 0 = .ok (.aload_n 0, 1) := by decide +kernel
theorem dX7_feed_1 : decode cX7_feed 1 = .ok (.getfield 203, 3) := by decide +kernel
theorem dX7_feed_4 : decode cX7_feed 4 = .ok (.bipush 12, 2) := by decide +kernel
theorem dX7_feed_6 : decode cX7_feed 6 = .ok (.iadd, 1) := by decide +kernel
theorem dX7_feed_7 : decode cX7_feed 7 = .ok (.bipush 96, 2) := by decide +kernel
theorem dX7_feed_9 : decode cX7_feed 9 = .ok (.if_icmp .le 6, 3) := by decide +kernel
theorem dX7_feed_12 : decode cX7_feed 12 = .ok (.ldc 120, 2) := by decide +kernel
theorem dX7_feed_14 : decode cX7_feed 14 = .ok (.ireturn, 1) := by decide +kernel
theorem dX7_feed_15 : decode cX7_feed 15 = .ok (.iconst 0, 1) := by decide +kernel
theorem dX7_feed_16 : decode cX7_feed 16 = .ok (.istore 4, 2) := by decide +kernel
theorem dX7_feed_18 : decode cX7_feed 18 = .ok (.iload 4, 2) := by decide +kernel
theorem dX7_feed_20 : decode cX7_feed 20 = .ok (.bipush 12, 2) := by decide +kernel
theorem dX7_feed_22 : decode cX7_feed 22 = .ok (.if_icmp .ge 62, 3) := by decide +kernel
theorem dX7_feed_25 : decode cX7_feed 25 = .ok (.iload 4, 2) := by decide +kernel
theorem dX7_feed_27 : decode cX7_feed 27 = .ok (.iconst 4, 1) := by decide +kernel
theorem dX7_feed_28 : decode cX7_feed 28 = .ok (.if_icmp .ge 7, 3) := by decide +kernel
theorem dX7_feed_31 : decode cX7_feed 31 = .ok (.iload_n 1, 1) := by decide +kernel
theorem dX7_feed_32 : decode cX7_feed 32 = .ok (.goto 15, 3) := by decide +kernel
theorem dX7_feed_35 : decode cX7_feed 35 = .ok (.iload 4, 2) := by decide +kernel
theorem dX7_feed_37 : decode cX7_feed 37 = .ok (.bipush 8, 2) := by decide +kernel
theorem dX7_feed_39 : decode cX7_feed 39 = .ok (.if_icmp .ge 7, 3) := by decide +kernel
theorem dX7_feed_42 : decode cX7_feed 42 = .ok (.iload_n 2, 1) := by decide +kernel
theorem dX7_feed_43 : decode cX7_feed 43 = .ok (.goto 4, 3) := by decide +kernel
theorem dX7_feed_46 : decode cX7_feed 46 = .ok (.iload_n 3, 1) := by decide +kernel
theorem dX7_feed_47 : decode cX7_feed 47 = .ok (.istore 5, 2) := by decide +kernel
theorem dX7_feed_49 : decode cX7_feed 49 = .ok (.aload_n 0, 1) := by decide +kernel
theorem dX7_feed_50 : decode cX7_feed 50 = .ok (.getfield 22, 3) := by decide +kernel
theorem dX7_feed_53 : decode cX7_feed 53 = .ok (.aload_n 0, 1) := by decide +kernel
theorem dX7_feed_54 : decode cX7_feed 54 = .ok (.getfield 203, 3) := by decide +kernel
theorem dX7_feed_57 : decode cX7_feed 57 = .ok (.iload 4, 2) := by decide +kernel
theorem dX7_feed_59 : decode cX7_feed 59 = .ok (.iadd, 1) := by decide +kernel
theorem dX7_feed_60 : decode cX7_feed 60 = .ok (.iload 5, 2) := by decide +kernel
theorem dX7_feed_62 : decode cX7_feed 62 = .ok (.bipush 24, 2) := by decide +kernel
theorem dX7_feed_64 : decode cX7_feed 64 = .ok (.bipush 8, 2) := by decide +kernel
theorem dX7_feed_66 : decode cX7_feed 66 = .ok (.iload 4, 2) := by decide +kernel
theorem dX7_feed_68 : decode cX7_feed 68 = .ok (.iconst 4, 1) := by decide +kernel
theorem dX7_feed_69 : decode cX7_feed 69 = .ok (.irem, 1) := by decide +kernel
theorem dX7_feed_70 : decode cX7_feed 70 = .ok (.imul, 1) := by decide +kernel
theorem dX7_feed_71 : decode cX7_feed 71 = .ok (.isub, 1) := by decide +kernel
theorem dX7_feed_72 : decode cX7_feed 72 = .ok (.ishr, 1) := by decide +kernel
theorem dX7_feed_73 : decode cX7_feed 73 = .ok (.sipush 255, 3) := by decide +kernel
theorem dX7_feed_76 : decode cX7_feed 76 = .ok (.iand, 1) := by decide +kernel
theorem dX7_feed_77 : decode cX7_feed 77 = .ok (.iastore, 1) := by decide +kernel
theorem dX7_feed_78 : decode cX7_feed 78 = .ok (.iinc 4 1, 3) := by decide +kernel
theorem dX7_feed_81 : decode cX7_feed 81 = .ok (.goto (-63), 3) := by decide +kernel
theorem dX7_feed_84 : decode cX7_feed 84 = .ok (.aload_n 0, 1) := by decide +kernel
theorem dX7_feed_85 : decode cX7_feed 85 = .ok (.dup, 1) := by decide +kernel
theorem dX7_feed_86 : decode cX7_feed 86 = .ok (.getfield 203, 3) := by decide +kernel
theorem dX7_feed_89 : decode cX7_feed 89 = .ok (.bipush 12, 2) := by decide +kernel
theorem dX7_feed_91 : decode cX7_feed 91 = .ok (.iadd, 1) := by decide +kernel
theorem dX7_feed_92 : decode cX7_feed 92 = .ok (.putfield 203, 3) := by decide +kernel
theorem dX7_feed_95 : decode cX7_feed 95 = .ok (.aload_n 0, 1) := by decide +kernel
theorem dX7_feed_96 : decode cX7_feed 96 = .ok (.getfield 203, 3) := by decide +kernel
theorem dX7_feed_99 : decode cX7_feed 99 = .ok (.ireturn, 1) := by decide +kernel
theorem dX7_trim_0 : decode cX7_trim 0 = .ok (.iload_n 1, 1) := by decide +kernel
theorem dX7_trim_1 : decode cX7_trim 1 = .ok (.iconst 0, 1) := by decide +kernel
theorem dX7_trim_2 : decode cX7_trim 2 = .ok (.aload_n 0, 1) := by decide +kernel
theorem dX7_trim_3 : decode cX7_trim 3 = .ok (.getfield 203, 3) := by decide +kernel
theorem dX7_trim_6 : decode cX7_trim 6 = .ok (.invokestatic 75, 3) := by decide +kernel
theorem dX7_trim_9 : decode cX7_trim 9 = .ok (.ifCond .ne 6, 3) := by decide +kernel
theorem dX7_trim_12 : decode cX7_trim 12 = .ok (.ldc 119, 2) := by decide +kernel
theorem dX7_trim_14 : decode cX7_trim 14 = .ok (.ireturn, 1) := by decide +kernel
theorem dX7_trim_15 : decode cX7_trim 15 = .ok (.aload_n 0, 1) := by decide +kernel
theorem dX7_trim_16 : decode cX7_trim 16 = .ok (.iload_n 1, 1) := by decide +kernel
theorem dX7_trim_17 : decode cX7_trim 17 = .ok (.putfield 203, 3) := by decide +kernel
theorem dX7_trim_20 : decode cX7_trim 20 = .ok (.iload_n 1, 1) := by decide +kernel
theorem dX7_trim_21 : decode cX7_trim 21 = .ok (.ireturn, 1) := by decide +kernel
theorem dX7_isLetter_0 : decode cX7_isLetter 0 = .ok (.iload_n 1, 1) := by decide +kernel
theorem dX7_isLetter_1 : decode cX7_isLetter 1 = .ok (.aload_n 0, 1) := by decide +kernel
theorem dX7_isLetter_2 : decode cX7_isLetter 2 = .ok (.getfield 203, 3) := by decide +kernel
theorem dX7_isLetter_5 : decode cX7_isLetter 5 = .ok (.if_icmp .ge 29, 3) := by decide +kernel
theorem dX7_isLetter_8 : decode cX7_isLetter 8 = .ok (.aload_n 0, 1) := by decide +kernel
theorem dX7_isLetter_9 : decode cX7_isLetter 9 = .ok (.getfield 22, 3) := by decide +kernel
theorem dX7_isLetter_12 : decode cX7_isLetter 12 = .ok (.iload_n 1, 1) := by decide +kernel
theorem dX7_isLetter_13 : decode cX7_isLetter 13 = .ok (.iaload, 1) := by decide +kernel
theorem dX7_isLetter_14 : decode cX7_isLetter 14 = .ok (.bipush 97, 2) := by decide +kernel
theorem dX7_isLetter_16 : decode cX7_isLetter 16 = .ok (.if_icmp .lt 18, 3) := by decide +kernel
theorem dX7_isLetter_19 : decode cX7_isLetter 19 = .ok (.aload_n 0, 1) := by decide +kernel
theorem dX7_isLetter_20 : decode cX7_isLetter 20 = .ok (.getfield 22, 3) := by decide +kernel
theorem dX7_isLetter_23 : decode cX7_isLetter 23 = .ok (.iload_n 1, 1) := by decide +kernel
theorem dX7_isLetter_24 : decode cX7_isLetter 24 = .ok (.iaload, 1) := by decide +kernel
theorem dX7_isLetter_25 : decode cX7_isLetter 25 = .ok (.bipush 122, 2) := by decide +kernel
theorem dX7_isLetter_27 : decode cX7_isLetter 27 = .ok (.if_icmp .gt 7, 3) := by decide +kernel
theorem dX7_isLetter_30 : decode cX7_isLetter 30 = .ok (.iconst 1, 1) := by decide +kernel
theorem dX7_isLetter_31 : decode cX7_isLetter 31 = .ok (.goto 4, 3) := by decide +kernel
theorem dX7_isLetter_34 : decode cX7_isLetter 34 = .ok (.iconst 0, 1) := by decide +kernel
theorem dX7_isLetter_35 : decode cX7_isLetter 35 = .ok (.ireturn, 1) := by decide +kernel
theorem dX7_isFigure_0 : decode cX7_isFigure 0 = .ok (.iload_n 1, 1) := by decide +kernel
theorem dX7_isFigure_1 : decode cX7_isFigure 1 = .ok (.aload_n 0, 1) := by decide +kernel
theorem dX7_isFigure_2 : decode cX7_isFigure 2 = .ok (.getfield 203, 3) := by decide +kernel
theorem dX7_isFigure_5 : decode cX7_isFigure 5 = .ok (.if_icmp .ge 29, 3) := by decide +kernel
theorem dX7_isFigure_8 : decode cX7_isFigure 8 = .ok (.aload_n 0, 1) := by decide +kernel
theorem dX7_isFigure_9 : decode cX7_isFigure 9 = .ok (.getfield 22, 3) := by decide +kernel
theorem dX7_isFigure_12 : decode cX7_isFigure 12 = .ok (.iload_n 1, 1) := by decide +kernel
theorem dX7_isFigure_13 : decode cX7_isFigure 13 = .ok (.iaload, 1) := by decide +kernel
theorem dX7_isFigure_14 : decode cX7_isFigure 14 = .ok (.bipush 48, 2) := by decide +kernel
theorem dX7_isFigure_16 : decode cX7_isFigure 16 = .ok (.if_icmp .lt 18, 3) := by decide +kernel
theorem dX7_isFigure_19 : decode cX7_isFigure 19 = .ok (.aload_n 0, 1) := by decide +kernel
theorem dX7_isFigure_20 : decode cX7_isFigure 20 = .ok (.getfield 22, 3) := by decide +kernel
theorem dX7_isFigure_23 : decode cX7_isFigure 23 = .ok (.iload_n 1, 1) := by decide +kernel
theorem dX7_isFigure_24 : decode cX7_isFigure 24 = .ok (.iaload, 1) := by decide +kernel
theorem dX7_isFigure_25 : decode cX7_isFigure 25 = .ok (.bipush 57, 2) := by decide +kernel
theorem dX7_isFigure_27 : decode cX7_isFigure 27 = .ok (.if_icmp .gt 7, 3) := by decide +kernel
theorem dX7_isFigure_30 : decode cX7_isFigure 30 = .ok (.iconst 1, 1) := by decide +kernel
theorem dX7_isFigure_31 : decode cX7_isFigure 31 = .ok (.goto 4, 3) := by decide +kernel
theorem dX7_isFigure_34 : decode cX7_isFigure 34 = .ok (.iconst 0, 1) := by decide +kernel
theorem dX7_isFigure_35 : decode cX7_isFigure 35 = .ok (.ireturn, 1) := by decide +kernel
theorem dX7_go_0 : decode cX7_go 0 = .ok (.aload_n 0, 1) := by decide +kernel
theorem dX7_go_1 : decode cX7_go 1 = .ok (.getfield 207, 3) := by decide +kernel
theorem dX7_go_4 : decode cX7_go 4 = .ok (.aload_n 0, 1) := by decide +kernel
theorem dX7_go_5 : decode cX7_go 5 = .ok (.getfield 203, 3) := by decide +kernel
theorem dX7_go_8 : decode cX7_go 8 = .ok (.if_icmp .ge 30, 3) := by decide +kernel
theorem dX7_go_11 : decode cX7_go 11 = .ok (.aload_n 0, 1) := by decide +kernel
theorem dX7_go_12 : decode cX7_go 12 = .ok (.getfield 22, 3) := by decide +kernel
theorem dX7_go_15 : decode cX7_go 15 = .ok (.aload_n 0, 1) := by decide +kernel
theorem dX7_go_16 : decode cX7_go 16 = .ok (.getfield 207, 3) := by decide +kernel
theorem dX7_go_19 : decode cX7_go 19 = .ok (.iaload, 1) := by decide +kernel
theorem dX7_go_20 : decode cX7_go 20 = .ok (.bipush 32, 2) := by decide +kernel
theorem dX7_go_22 : decode cX7_go 22 = .ok (.if_icmp .ne 16, 3) := by decide +kernel
theorem dX7_go_25 : decode cX7_go 25 = .ok (.aload_n 0, 1) := by decide +kernel
theorem dX7_go_26 : decode cX7_go 26 = .ok (.dup, 1) := by decide +kernel
theorem dX7_go_27 : decode cX7_go 27 = .ok (.getfield 207, 3) := by decide +kernel
theorem dX7_go_30 : decode cX7_go 30 = .ok (.iconst 1, 1) := by decide +kernel
theorem dX7_go_31 : decode cX7_go 31 = .ok (.iadd, 1) := by decide +kernel
theorem dX7_go_32 : decode cX7_go 32 = .ok (.putfield 207, 3) := by decide +kernel
theorem dX7_go_35 : decode cX7_go 35 = .ok (.goto (-35), 3) := by decide +kernel
theorem dX7_go_38 : decode cX7_go 38 = .ok (.aload_n 0, 1) := by decide +kernel
theorem dX7_go_39 : decode cX7_go 39 = .ok (.aload_n 0, 1) := by decide +kernel
theorem dX7_go_40 : decode cX7_go 40 = .ok (.getfield 207, 3) := by decide +kernel
theorem dX7_go_43 : decode cX7_go 43 = .ok (.putfield 210, 3) := by decide +kernel
theorem dX7_go_46 : decode cX7_go 46 = .ok (.aload_n 0, 1) := by decide +kernel
theorem dX7_go_47 : decode cX7_go 47 = .ok (.getfield 210, 3) := by decide +kernel
theorem dX7_go_50 : decode cX7_go 50 = .ok (.aload_n 0, 1) := by decide +kernel
theorem dX7_go_51 : decode cX7_go 51 = .ok (.getfield 213, 3) := by decide +kernel
theorem dX7_go_54 : decode cX7_go 54 = .ok (.if_icmp .ne 7, 3) := by decide +kernel
theorem dX7_go_57 : decode cX7_go 57 = .ok (.iconst 1, 1) := by decide +kernel
theorem dX7_go_58 : decode cX7_go 58 = .ok (.goto 4, 3) := by decide +kernel
theorem dX7_go_61 : decode cX7_go 61 = .ok (.iconst 0, 1) := by decide +kernel
theorem dX7_go_62 : decode cX7_go 62 = .ok (.istore_n 1, 1) := by decide +kernel
theorem dX7_go_63 : decode cX7_go 63 = .ok (.aload_n 0, 1) := by decide +kernel
theorem dX7_go_64 : decode cX7_go 64 = .ok (.getfield 210, 3) := by decide +kernel
theorem dX7_go_67 : decode cX7_go 67 = .ok (.aload_n 0, 1) := by decide +kernel
theorem dX7_go_68 : decode cX7_go 68 = .ok (.getfield 203, 3) := by decide +kernel
theorem dX7_go_71 : decode cX7_go 71 = .ok (.if_icmp .ne 11, 3) := by decide +kernel
theorem dX7_go_74 : decode cX7_go 74 = .ok (.aload_n 0, 1) := by decide +kernel
theorem dX7_go_75 : decode cX7_go 75 = .ok (.iconst 0, 1) := by decide +kernel
theorem dX7_go_76 : decode cX7_go 76 = .ok (.putfield 216, 3) := by decide +kernel
theorem dX7_go_79 : decode cX7_go 79 = .ok (.goto 224, 3) := by decide +kernel
theorem dX7_go_82 : decode cX7_go 82 = .ok (.aload_n 0, 1) := by decide +kernel
theorem dX7_go_83 : decode cX7_go 83 = .ok (.aload_n 0, 1) := by decide +kernel
theorem dX7_go_84 : decode cX7_go 84 = .ok (.getfield 210, 3) := by decide +kernel
theorem dX7_go_87 : decode cX7_go 87 = .ok (.invokevirtual 219, 3) := by decide +kernel
theorem dX7_go_90 : decode cX7_go 90 = .ok (.ifCond .eq 64, 3) := by decide +kernel
theorem dX7_go_93 : decode cX7_go 93 = .ok (.aload_n 0, 1) := by decide +kernel
theorem dX7_go_94 : decode cX7_go 94 = .ok (.aload_n 0, 1) := by decide +kernel
theorem dX7_go_95 : decode cX7_go 95 = .ok (.getfield 207, 3) := by decide +kernel
theorem dX7_go_98 : decode cX7_go 98 = .ok (.invokevirtual 219, 3) := by decide +kernel
theorem dX7_go_101 : decode cX7_go 101 = .ok (.ifCond .eq 16, 3) := by decide +kernel
theorem dX7_go_104 : decode cX7_go 104 = .ok (.aload_n 0, 1) := by decide +kernel
theorem dX7_go_105 : decode cX7_go 105 = .ok (.dup, 1) := by decide +kernel
theorem dX7_go_106 : decode cX7_go 106 = .ok (.getfield 207, 3) := by decide +kernel
theorem dX7_go_109 : decode cX7_go 109 = .ok (.iconst 1, 1) := by decide +kernel
theorem dX7_go_110 : decode cX7_go 110 = .ok (.iadd, 1) := by decide +kernel
theorem dX7_go_111 : decode cX7_go 111 = .ok (.putfield 207, 3) := by decide +kernel
theorem dX7_go_114 : decode cX7_go 114 = .ok (.goto (-21), 3) := by decide +kernel
theorem dX7_go_117 : decode cX7_go 117 = .ok (.aload_n 0, 1) := by decide +kernel
theorem dX7_go_118 : decode cX7_go 118 = .ok (.iload_n 1, 1) := by decide +kernel
theorem dX7_go_119 : decode cX7_go 119 = .ok (.ifCond .eq 7, 3) := by decide +kernel
theorem dX7_go_122 : decode cX7_go 122 = .ok (.iconst 4, 1) := by decide +kernel
theorem dX7_go_123 : decode cX7_go 123 = .ok (.goto 4, 3) := by decide +kernel
theorem dX7_go_126 : decode cX7_go 126 = .ok (.iconst 1, 1) := by decide +kernel
theorem dX7_go_127 : decode cX7_go 127 = .ok (.putfield 216, 3) := by decide +kernel
theorem dX7_go_130 : decode cX7_go 130 = .ok (.aload_n 0, 1) := by decide +kernel
theorem dX7_go_131 : decode cX7_go 131 = .ok (.aload_n 0, 1) := by decide +kernel
theorem dX7_go_132 : decode cX7_go 132 = .ok (.getfield 22, 3) := by decide +kernel
theorem dX7_go_135 : decode cX7_go 135 = .ok (.aload_n 0, 1) := by decide +kernel
theorem dX7_go_136 : decode cX7_go 136 = .ok (.getfield 210, 3) := by decide +kernel
theorem dX7_go_139 : decode cX7_go 139 = .ok (.iaload, 1) := by decide +kernel
theorem dX7_go_140 : decode cX7_go 140 = .ok (.putfield 222, 3) := by decide +kernel
theorem dX7_go_143 : decode cX7_go 143 = .ok (.aload_n 0, 1) := by decide +kernel
theorem dX7_go_144 : decode cX7_go 144 = .ok (.aload_n 0, 1) := by decide +kernel
theorem dX7_go_145 : decode cX7_go 145 = .ok (.getfield 207, 3) := by decide +kernel
theorem dX7_go_148 : decode cX7_go 148 = .ok (.putfield 213, 3) := by decide +kernel
theorem dX7_go_151 : decode cX7_go 151 = .ok (.goto 152, 3) := by decide +kernel
theorem dX7_go_154 : decode cX7_go 154 = .ok (.aload_n 0, 1) := by decide +kernel
theorem dX7_go_155 : decode cX7_go 155 = .ok (.aload_n 0, 1) := by decide +kernel
theorem dX7_go_156 : decode cX7_go 156 = .ok (.getfield 210, 3) := by decide +kernel
theorem dX7_go_159 : decode cX7_go 159 = .ok (.invokevirtual 225, 3) := by decide +kernel
theorem dX7_go_162 : decode cX7_go 162 = .ok (.ifCond .eq 113, 3) := by decide +kernel
theorem dX7_go_165 : decode cX7_go 165 = .ok (.aload_n 0, 1) := by decide +kernel
theorem dX7_go_166 : decode cX7_go 166 = .ok (.iconst 0, 1) := by decide +kernel
theorem dX7_go_167 : decode cX7_go 167 = .ok (.putfield 222, 3) := by decide +kernel
theorem dX7_go_170 : decode cX7_go 170 = .ok (.aload_n 0, 1) := by decide +kernel
theorem dX7_go_171 : decode cX7_go 171 = .ok (.aload_n 0, 1) := by decide +kernel
theorem dX7_go_172 : decode cX7_go 172 = .ok (.getfield 207, 3) := by decide +kernel
theorem dX7_go_175 : decode cX7_go 175 = .ok (.invokevirtual 225, 3) := by decide +kernel
theorem dX7_go_178 : decode cX7_go 178 = .ok (.ifCond .eq 60, 3) := by decide +kernel
theorem dX7_go_181 : decode cX7_go 181 = .ok (.aload_n 0, 1) := by decide +kernel
theorem dX7_go_182 : decode cX7_go 182 = .ok (.aload_n 0, 1) := by decide +kernel
theorem dX7_go_183 : decode cX7_go 183 = .ok (.getfield 207, 3) := by decide +kernel
theorem dX7_go_186 : decode cX7_go 186 = .ok (.aload_n 0, 1) := by decide +kernel
theorem dX7_go_187 : decode cX7_go 187 = .ok (.getfield 210, 3) := by decide +kernel
theorem dX7_go_190 : decode cX7_go 190 = .ok (.isub, 1) := by decide +kernel
theorem dX7_go_191 : decode cX7_go 191 = .ok (.iconst 4, 1) := by decide +kernel
theorem dX7_go_192 : decode cX7_go 192 = .ok (.if_icmp .ge 26, 3) := by decide +kernel
theorem dX7_go_195 : decode cX7_go 195 = .ok (.bipush 10, 2) := by decide +kernel
theorem dX7_go_197 : decode cX7_go 197 = .ok (.aload_n 0, 1) := by decide +kernel
theorem dX7_go_198 : decode cX7_go 198 = .ok (.getfield 222, 3) := by decide +kernel
theorem dX7_go_201 : decode cX7_go 201 = .ok (.imul, 1) := by decide +kernel
theorem dX7_go_202 : decode cX7_go 202 = .ok (.aload_n 0, 1) := by decide +kernel
theorem dX7_go_203 : decode cX7_go 203 = .ok (.getfield 22, 3) := by decide +kernel
theorem dX7_go_206 : decode cX7_go 206 = .ok (.aload_n 0, 1) := by decide +kernel
theorem dX7_go_207 : decode cX7_go 207 = .ok (.getfield 207, 3) := by decide +kernel
theorem dX7_go_210 : decode cX7_go 210 = .ok (.iaload, 1) := by decide +kernel
theorem dX7_go_211 : decode cX7_go 211 = .ok (.iadd, 1) := by decide +kernel
theorem dX7_go_212 : decode cX7_go 212 = .ok (.bipush 48, 2) := by decide +kernel
theorem dX7_go_214 : decode cX7_go 214 = .ok (.isub, 1) := by decide +kernel
theorem dX7_go_215 : decode cX7_go 215 = .ok (.goto 7, 3) := by decide +kernel
theorem dX7_go_218 : decode cX7_go 218 = .ok (.aload_n 0, 1) := by decide +kernel
theorem dX7_go_219 : decode cX7_go 219 = .ok (.getfield 222, 3) := by decide +kernel
theorem dX7_go_222 : decode cX7_go 222 = .ok (.putfield 222, 3) := by decide +kernel
theorem dX7_go_225 : decode cX7_go 225 = .ok (.aload_n 0, 1) := by decide +kernel
theorem dX7_go_226 : decode cX7_go 226 = .ok (.dup, 1) := by decide +kernel
theorem dX7_go_227 : decode cX7_go 227 = .ok (.getfield 207, 3) := by decide +kernel
theorem dX7_go_230 : decode cX7_go 230 = .ok (.iconst 1, 1) := by decide +kernel
theorem dX7_go_231 : decode cX7_go 231 = .ok (.iadd, 1) := by decide +kernel
theorem dX7_go_232 : decode cX7_go 232 = .ok (.putfield 207, 3) := by decide +kernel
theorem dX7_go_235 : decode cX7_go 235 = .ok (.goto (-65), 3) := by decide +kernel
theorem dX7_go_238 : decode cX7_go 238 = .ok (.aload_n 0, 1) := by decide +kernel
theorem dX7_go_239 : decode cX7_go 239 = .ok (.iload_n 1, 1) := by decide +kernel
theorem dX7_go_240 : decode cX7_go 240 = .ok (.ifCond .ne 16, 3) := by decide +kernel
theorem dX7_go_243 : decode cX7_go 243 = .ok (.aload_n 0, 1) := by decide +kernel
theorem dX7_go_244 : decode cX7_go 244 = .ok (.getfield 207, 3) := by decide +kernel
theorem dX7_go_247 : decode cX7_go 247 = .ok (.aload_n 0, 1) := by decide +kernel
theorem dX7_go_248 : decode cX7_go 248 = .ok (.getfield 210, 3) := by decide +kernel
theorem dX7_go_251 : decode cX7_go 251 = .ok (.isub, 1) := by decide +kernel
theorem dX7_go_252 : decode cX7_go 252 = .ok (.iconst 4, 1) := by decide +kernel
theorem dX7_go_253 : decode cX7_go 253 = .ok (.if_icmp .le 7, 3) := by decide +kernel
theorem dX7_go_256 : decode cX7_go 256 = .ok (.iconst 4, 1) := by decide +kernel
theorem dX7_go_257 : decode cX7_go 257 = .ok (.goto 4, 3) := by decide +kernel
theorem dX7_go_260 : decode cX7_go 260 = .ok (.iconst 2, 1) := by decide +kernel
theorem dX7_go_261 : decode cX7_go 261 = .ok (.putfield 216, 3) := by decide +kernel
theorem dX7_go_264 : decode cX7_go 264 = .ok (.aload_n 0, 1) := by decide +kernel
theorem dX7_go_265 : decode cX7_go 265 = .ok (.aload_n 0, 1) := by decide +kernel
theorem dX7_go_266 : decode cX7_go 266 = .ok (.getfield 207, 3) := by decide +kernel
theorem dX7_go_269 : decode cX7_go 269 = .ok (.putfield 213, 3) := by decide +kernel
theorem dX7_go_272 : decode cX7_go 272 = .ok (.goto 31, 3) := by decide +kernel
theorem dX7_go_275 : decode cX7_go 275 = .ok (.aload_n 0, 1) := by decide +kernel
theorem dX7_go_276 : decode cX7_go 276 = .ok (.iconst 3, 1) := by decide +kernel
theorem dX7_go_277 : decode cX7_go 277 = .ok (.putfield 216, 3) := by decide +kernel
theorem dX7_go_280 : decode cX7_go 280 = .ok (.aload_n 0, 1) := by decide +kernel
theorem dX7_go_281 : decode cX7_go 281 = .ok (.aload_n 0, 1) := by decide +kernel
theorem dX7_go_282 : decode cX7_go 282 = .ok (.getfield 22, 3) := by decide +kernel
theorem dX7_go_285 : decode cX7_go 285 = .ok (.aload_n 0, 1) := by decide +kernel
theorem dX7_go_286 : decode cX7_go 286 = .ok (.getfield 210, 3) := by decide +kernel
theorem dX7_go_289 : decode cX7_go 289 = .ok (.iaload, 1) := by decide +kernel
theorem dX7_go_290 : decode cX7_go 290 = .ok (.putfield 222, 3) := by decide +kernel
theorem dX7_go_293 : decode cX7_go 293 = .ok (.aload_n 0, 1) := by decide +kernel
theorem dX7_go_294 : decode cX7_go 294 = .ok (.dup, 1) := by decide +kernel
theorem dX7_go_295 : decode cX7_go 295 = .ok (.getfield 207, 3) := by decide +kernel
theorem dX7_go_298 : decode cX7_go 298 = .ok (.iconst 1, 1) := by decide +kernel
theorem dX7_go_299 : decode cX7_go 299 = .ok (.iadd, 1) := by decide +kernel
theorem dX7_go_300 : decode cX7_go 300 = .ok (.putfield 207, 3) := by decide +kernel
theorem dX7_go_303 : decode cX7_go 303 = .ok (.return_, 1) := by decide +kernel
theorem dX7_takesKey_0 : decode cX7_takesKey 0 = .ok (.aload_n 0, 1) := by decide +kernel
theorem dX7_takesKey_1 : decode cX7_takesKey 1 = .ok (.getfield 216, 3) := by decide +kernel
theorem dX7_takesKey_4 : decode cX7_takesKey 4 = .ok (.iconst 1, 1) := by decide +kernel
theorem dX7_takesKey_5 : decode cX7_takesKey 5 = .ok (.if_icmp .eq 5, 3) := by decide +kernel
theorem dX7_takesKey_8 : decode cX7_takesKey 8 = .ok (.iconst 0, 1) := by decide +kernel
theorem dX7_takesKey_9 : decode cX7_takesKey 9 = .ok (.ireturn, 1) := by decide +kernel
theorem dX7_takesKey_10 : decode cX7_takesKey 10 = .ok (.iconst 0, 1) := by decide +kernel
theorem dX7_takesKey_11 : decode cX7_takesKey 11 = .ok (.istore_n 1, 1) := by decide +kernel
theorem dX7_takesKey_12 : decode cX7_takesKey 12 = .ok (.iload_n 1, 1) := by decide +kernel
theorem dX7_takesKey_13 : decode cX7_takesKey 13 = .ok (.iconst 3, 1) := by decide +kernel
theorem dX7_takesKey_14 : decode cX7_takesKey 14 = .ok (.if_icmp .ge 113, 3) := by decide +kernel
theorem dX7_takesKey_17 : decode cX7_takesKey 17 = .ok (.aload_n 0, 1) := by decide +kernel
theorem dX7_takesKey_18 : decode cX7_takesKey 18 = .ok (.getfield 29, 3) := by decide +kernel
theorem dX7_takesKey_21 : decode cX7_takesKey 21 = .ok (.iload_n 1, 1) := by decide +kernel
theorem dX7_takesKey_22 : decode cX7_takesKey 22 = .ok (.iconst 1, 1) := by decide +kernel
theorem dX7_takesKey_23 : decode cX7_takesKey 23 = .ok (.iadd, 1) := by decide +kernel
theorem dX7_takesKey_24 : decode cX7_takesKey 24 = .ok (.iaload, 1) := by decide +kernel
theorem dX7_takesKey_25 : decode cX7_takesKey 25 = .ok (.aload_n 0, 1) := by decide +kernel
theorem dX7_takesKey_26 : decode cX7_takesKey 26 = .ok (.getfield 29, 3) := by decide +kernel
theorem dX7_takesKey_29 : decode cX7_takesKey 29 = .ok (.iload_n 1, 1) := by decide +kernel
theorem dX7_takesKey_30 : decode cX7_takesKey 30 = .ok (.iaload, 1) := by decide +kernel
theorem dX7_takesKey_31 : decode cX7_takesKey 31 = .ok (.isub, 1) := by decide +kernel
theorem dX7_takesKey_32 : decode cX7_takesKey 32 = .ok (.istore_n 2, 1) := by decide +kernel
theorem dX7_takesKey_33 : decode cX7_takesKey 33 = .ok (.iload_n 2, 1) := by decide +kernel
theorem dX7_takesKey_34 : decode cX7_takesKey 34 = .ok (.aload_n 0, 1) := by decide +kernel
theorem dX7_takesKey_35 : decode cX7_takesKey 35 = .ok (.getfield 207, 3) := by decide +kernel
theorem dX7_takesKey_38 : decode cX7_takesKey 38 = .ok (.aload_n 0, 1) := by decide +kernel
theorem dX7_takesKey_39 : decode cX7_takesKey 39 = .ok (.getfield 210, 3) := by decide +kernel
theorem dX7_takesKey_42 : decode cX7_takesKey 42 = .ok (.isub, 1) := by decide +kernel
theorem dX7_takesKey_43 : decode cX7_takesKey 43 = .ok (.if_icmp .ne 7, 3) := by decide +kernel
theorem dX7_takesKey_46 : decode cX7_takesKey 46 = .ok (.iconst 1, 1) := by decide +kernel
theorem dX7_takesKey_47 : decode cX7_takesKey 47 = .ok (.goto 4, 3) := by decide +kernel
theorem dX7_takesKey_50 : decode cX7_takesKey 50 = .ok (.iconst 0, 1) := by decide +kernel
theorem dX7_takesKey_51 : decode cX7_takesKey 51 = .ok (.istore_n 3, 1) := by decide +kernel
theorem dX7_takesKey_52 : decode cX7_takesKey 52 = .ok (.iconst 0, 1) := by decide +kernel
theorem dX7_takesKey_53 : decode cX7_takesKey 53 = .ok (.istore 4, 2) := by decide +kernel
theorem dX7_takesKey_55 : decode cX7_takesKey 55 = .ok (.iload 4, 2) := by decide +kernel
theorem dX7_takesKey_57 : decode cX7_takesKey 57 = .ok (.iload_n 2, 1) := by decide +kernel
theorem dX7_takesKey_58 : decode cX7_takesKey 58 = .ok (.if_icmp .ge 48, 3) := by decide +kernel
theorem dX7_takesKey_61 : decode cX7_takesKey 61 = .ok (.iload_n 3, 1) := by decide +kernel
theorem dX7_takesKey_62 : decode cX7_takesKey 62 = .ok (.ifCond .eq 44, 3) := by decide +kernel
theorem dX7_takesKey_65 : decode cX7_takesKey 65 = .ok (.aload_n 0, 1) := by decide +kernel
theorem dX7_takesKey_66 : decode cX7_takesKey 66 = .ok (.getfield 22, 3) := by decide +kernel
theorem dX7_takesKey_69 : decode cX7_takesKey 69 = .ok (.aload_n 0, 1) := by decide +kernel
theorem dX7_takesKey_70 : decode cX7_takesKey 70 = .ok (.getfield 210, 3) := by decide +kernel
theorem dX7_takesKey_73 : decode cX7_takesKey 73 = .ok (.iload 4, 2) := by decide +kernel
theorem dX7_takesKey_75 : decode cX7_takesKey 75 = .ok (.iadd, 1) := by decide +kernel
theorem dX7_takesKey_76 : decode cX7_takesKey 76 = .ok (.iaload, 1) := by decide +kernel
theorem dX7_takesKey_77 : decode cX7_takesKey 77 = .ok (.aload_n 0, 1) := by decide +kernel
theorem dX7_takesKey_78 : decode cX7_takesKey 78 = .ok (.getfield 25, 3) := by decide +kernel
theorem dX7_takesKey_81 : decode cX7_takesKey 81 = .ok (.aload_n 0, 1) := by decide +kernel
theorem dX7_takesKey_82 : decode cX7_takesKey 82 = .ok (.getfield 29, 3) := by decide +kernel
theorem dX7_takesKey_85 : decode cX7_takesKey 85 = .ok (.iload_n 1, 1) := by decide +kernel
theorem dX7_takesKey_86 : decode cX7_takesKey 86 = .ok (.iaload, 1) := by decide +kernel
theorem dX7_takesKey_87 : decode cX7_takesKey 87 = .ok (.iload 4, 2) := by decide +kernel
theorem dX7_takesKey_89 : decode cX7_takesKey 89 = .ok (.iadd, 1) := by decide +kernel
theorem dX7_takesKey_90 : decode cX7_takesKey 90 = .ok (.caload, 1) := by decide +kernel
theorem dX7_takesKey_91 : decode cX7_takesKey 91 = .ok (.if_icmp .ne 7, 3) := by decide +kernel
theorem dX7_takesKey_94 : decode cX7_takesKey 94 = .ok (.iconst 1, 1) := by decide +kernel
theorem dX7_takesKey_95 : decode cX7_takesKey 95 = .ok (.goto 4, 3) := by decide +kernel
theorem dX7_takesKey_98 : decode cX7_takesKey 98 = .ok (.iconst 0, 1) := by decide +kernel
theorem dX7_takesKey_99 : decode cX7_takesKey 99 = .ok (.istore_n 3, 1) := by decide +kernel
theorem dX7_takesKey_100 : decode cX7_takesKey 100 = .ok (.iinc 4 1, 3) := by decide +kernel
theorem dX7_takesKey_103 : decode cX7_takesKey 103 = .ok (.goto (-48), 3) := by decide +kernel
theorem dX7_takesKey_106 : decode cX7_takesKey 106 = .ok (.iload_n 3, 1) := by decide +kernel
theorem dX7_takesKey_107 : decode cX7_takesKey 107 = .ok (.ifCond .eq 14, 3) := by decide +kernel
theorem dX7_takesKey_110 : decode cX7_takesKey 110 = .ok (.aload_n 0, 1) := by decide +kernel
theorem dX7_takesKey_111 : decode cX7_takesKey 111 = .ok (.iload_n 1, 1) := by decide +kernel
theorem dX7_takesKey_112 : decode cX7_takesKey 112 = .ok (.putfield 228, 3) := by decide +kernel
theorem dX7_takesKey_115 : decode cX7_takesKey 115 = .ok (.aload_n 0, 1) := by decide +kernel
theorem dX7_takesKey_116 : decode cX7_takesKey 116 = .ok (.invokevirtual 231, 3) := by decide +kernel
theorem dX7_takesKey_119 : decode cX7_takesKey 119 = .ok (.iconst 1, 1) := by decide +kernel
theorem dX7_takesKey_120 : decode cX7_takesKey 120 = .ok (.ireturn, 1) := by decide +kernel
theorem dX7_takesKey_121 : decode cX7_takesKey 121 = .ok (.iinc 1 1, 3) := by decide +kernel
theorem dX7_takesKey_124 : decode cX7_takesKey 124 = .ok (.goto (-112), 3) := by decide +kernel
theorem dX7_takesKey_127 : decode cX7_takesKey 127 = .ok (.iconst 0, 1) := by decide +kernel
theorem dX7_takesKey_128 : decode cX7_takesKey 128 = .ok (.ireturn, 1) := by decide +kernel
theorem dX7_nameOf_0 : decode cX7_nameOf 0 = .ok (.aload_n 0, 1) := by decide +kernel
theorem dX7_nameOf_1 : decode cX7_nameOf 1 = .ok (.getfield 228, 3) := by decide +kernel
theorem dX7_nameOf_4 : decode cX7_nameOf 4 = .ok (.lookupswitch 92 #[(0, 28), (1, 70)], 28) := by decide +kernel
theorem dX7_nameOf_32 : decode cX7_nameOf 32 = .ok (.iload_n 1, 1) := by decide +kernel
theorem dX7_nameOf_33 : decode cX7_nameOf 33 = .ok (.bipush 116, 2) := by decide +kernel
theorem dX7_nameOf_35 : decode cX7_nameOf 35 = .ok (.if_icmp .ne 7, 3) := by decide +kernel
theorem dX7_nameOf_38 : decode cX7_nameOf 38 = .ok (.iconst 0, 1) := by decide +kernel
theorem dX7_nameOf_39 : decode cX7_nameOf 39 = .ok (.goto 34, 3) := by decide +kernel
theorem dX7_nameOf_42 : decode cX7_nameOf 42 = .ok (.iload_n 1, 1) := by decide +kernel
theorem dX7_nameOf_43 : decode cX7_nameOf 43 = .ok (.bipush 110, 2) := by decide +kernel
theorem dX7_nameOf_45 : decode cX7_nameOf 45 = .ok (.if_icmp .ne 7, 3) := by decide +kernel
theorem dX7_nameOf_48 : decode cX7_nameOf 48 = .ok (.iconst 1, 1) := by decide +kernel
theorem dX7_nameOf_49 : decode cX7_nameOf 49 = .ok (.goto 24, 3) := by decide +kernel
theorem dX7_nameOf_52 : decode cX7_nameOf 52 = .ok (.iload_n 1, 1) := by decide +kernel
theorem dX7_nameOf_53 : decode cX7_nameOf 53 = .ok (.bipush 115, 2) := by decide +kernel
theorem dX7_nameOf_55 : decode cX7_nameOf 55 = .ok (.if_icmp .ne 7, 3) := by decide +kernel
theorem dX7_nameOf_58 : decode cX7_nameOf 58 = .ok (.iconst 2, 1) := by decide +kernel
theorem dX7_nameOf_59 : decode cX7_nameOf 59 = .ok (.goto 14, 3) := by decide +kernel
theorem dX7_nameOf_62 : decode cX7_nameOf 62 = .ok (.iload_n 1, 1) := by decide +kernel
theorem dX7_nameOf_63 : decode cX7_nameOf 63 = .ok (.bipush 118, 2) := by decide +kernel
theorem dX7_nameOf_65 : decode cX7_nameOf 65 = .ok (.if_icmp .ne 7, 3) := by decide +kernel
theorem dX7_nameOf_68 : decode cX7_nameOf 68 = .ok (.iconst 3, 1) := by decide +kernel
theorem dX7_nameOf_69 : decode cX7_nameOf 69 = .ok (.goto 4, 3) := by decide +kernel
theorem dX7_nameOf_72 : decode cX7_nameOf 72 = .ok (.iconst (-1), 1) := by decide +kernel
theorem dX7_nameOf_73 : decode cX7_nameOf 73 = .ok (.ireturn, 1) := by decide +kernel
theorem dX7_nameOf_74 : decode cX7_nameOf 74 = .ok (.iload_n 1, 1) := by decide +kernel
theorem dX7_nameOf_75 : decode cX7_nameOf 75 = .ok (.bipush 119, 2) := by decide +kernel
theorem dX7_nameOf_77 : decode cX7_nameOf 77 = .ok (.if_icmp .ne 7, 3) := by decide +kernel
theorem dX7_nameOf_80 : decode cX7_nameOf 80 = .ok (.iconst 0, 1) := by decide +kernel
theorem dX7_nameOf_81 : decode cX7_nameOf 81 = .ok (.goto 14, 3) := by decide +kernel
theorem dX7_nameOf_84 : decode cX7_nameOf 84 = .ok (.iload_n 1, 1) := by decide +kernel
theorem dX7_nameOf_85 : decode cX7_nameOf 85 = .ok (.bipush 103, 2) := by decide +kernel
theorem dX7_nameOf_87 : decode cX7_nameOf 87 = .ok (.if_icmp .ne 7, 3) := by decide +kernel
theorem dX7_nameOf_90 : decode cX7_nameOf 90 = .ok (.iconst 1, 1) := by decide +kernel
theorem dX7_nameOf_91 : decode cX7_nameOf 91 = .ok (.goto 4, 3) := by decide +kernel
theorem dX7_nameOf_94 : decode cX7_nameOf 94 = .ok (.iconst (-1), 1) := by decide +kernel
theorem dX7_nameOf_95 : decode cX7_nameOf 95 = .ok (.ireturn, 1) := by decide +kernel
theorem dX7_nameOf_96 : decode cX7_nameOf 96 = .ok (.iload_n 1, 1) := by decide +kernel
theorem dX7_nameOf_97 : decode cX7_nameOf 97 = .ok (.bipush 116, 2) := by decide +kernel
theorem dX7_nameOf_99 : decode cX7_nameOf 99 = .ok (.if_icmp .ne 7, 3) := by decide +kernel
theorem dX7_nameOf_102 : decode cX7_nameOf 102 = .ok (.iconst 0, 1) := by decide +kernel
theorem dX7_nameOf_103 : decode cX7_nameOf 103 = .ok (.goto 14, 3) := by decide +kernel
theorem dX7_nameOf_106 : decode cX7_nameOf 106 = .ok (.iload_n 1, 1) := by decide +kernel
theorem dX7_nameOf_107 : decode cX7_nameOf 107 = .ok (.bipush 115, 2) := by decide +kernel
theorem dX7_nameOf_109 : decode cX7_nameOf 109 = .ok (.if_icmp .ne 7, 3) := by decide +kernel
theorem dX7_nameOf_112 : decode cX7_nameOf 112 = .ok (.iconst 1, 1) := by decide +kernel
theorem dX7_nameOf_113 : decode cX7_nameOf 113 = .ok (.goto 4, 3) := by decide +kernel
theorem dX7_nameOf_116 : decode cX7_nameOf 116 = .ok (.iconst (-1), 1) := by decide +kernel
theorem dX7_nameOf_117 : decode cX7_nameOf 117 = .ok (.ireturn, 1) := by decide +kernel
theorem dX7_rank_0 : decode cX7_rank 0 = .ok (.iload_n 0, 1) := by decide +kernel
theorem dX7_rank_1 : decode cX7_rank 1 = .ok (.iconst (-1), 1) := by decide +kernel
theorem dX7_rank_2 : decode cX7_rank 2 = .ok (.if_icmp .ne 7, 3) := by decide +kernel
theorem dX7_rank_5 : decode cX7_rank 5 = .ok (.iconst 1, 1) := by decide +kernel
theorem dX7_rank_6 : decode cX7_rank 6 = .ok (.goto 45, 3) := by decide +kernel
theorem dX7_rank_9 : decode cX7_rank 9 = .ok (.iload_n 0, 1) := by decide +kernel
theorem dX7_rank_10 : decode cX7_rank 10 = .ok (.bipush (-2), 2) := by decide +kernel
theorem dX7_rank_12 : decode cX7_rank 12 = .ok (.if_icmp .ne 7, 3) := by decide +kernel
theorem dX7_rank_15 : decode cX7_rank 15 = .ok (.iconst 2, 1) := by decide +kernel
theorem dX7_rank_16 : decode cX7_rank 16 = .ok (.goto 35, 3) := by decide +kernel
theorem dX7_rank_19 : decode cX7_rank 19 = .ok (.iload_n 0, 1) := by decide +kernel
theorem dX7_rank_20 : decode cX7_rank 20 = .ok (.bipush (-5), 2) := by decide +kernel
theorem dX7_rank_22 : decode cX7_rank 22 = .ok (.if_icmp .lt 7, 3) := by decide +kernel
theorem dX7_rank_25 : decode cX7_rank 25 = .ok (.iconst 3, 1) := by decide +kernel
theorem dX7_rank_26 : decode cX7_rank 26 = .ok (.goto 25, 3) := by decide +kernel
theorem dX7_rank_29 : decode cX7_rank 29 = .ok (.iload_n 0, 1) := by decide +kernel
theorem dX7_rank_30 : decode cX7_rank 30 = .ok (.bipush (-7), 2) := by decide +kernel
theorem dX7_rank_32 : decode cX7_rank 32 = .ok (.if_icmp .lt 7, 3) := by decide +kernel
theorem dX7_rank_35 : decode cX7_rank 35 = .ok (.iconst 4, 1) := by decide +kernel
theorem dX7_rank_36 : decode cX7_rank 36 = .ok (.goto 15, 3) := by decide +kernel
theorem dX7_rank_39 : decode cX7_rank 39 = .ok (.iload_n 0, 1) := by decide +kernel
theorem dX7_rank_40 : decode cX7_rank 40 = .ok (.bipush (-9), 2) := by decide +kernel
theorem dX7_rank_42 : decode cX7_rank 42 = .ok (.if_icmp .lt 7, 3) := by decide +kernel
theorem dX7_rank_45 : decode cX7_rank 45 = .ok (.iconst 5, 1) := by decide +kernel
theorem dX7_rank_46 : decode cX7_rank 46 = .ok (.goto 5, 3) := by decide +kernel
theorem dX7_rank_49 : decode cX7_rank 49 = .ok (.bipush 6, 2) := by decide +kernel
theorem dX7_rank_51 : decode cX7_rank 51 = .ok (.ireturn, 1) := by decide +kernel
theorem dX7_settle_0 : decode cX7_settle 0 = .ok (.aload_n 0, 1) := by decide +kernel
theorem dX7_settle_1 : decode cX7_settle 1 = .ok (.getfield 234, 3) := by decide +kernel
theorem dX7_settle_4 : decode cX7_settle 4 = .ok (.ifCond .le 78, 3) := by decide +kernel
theorem dX7_settle_7 : decode cX7_settle 7 = .ok (.aload_n 0, 1) := by decide +kernel
theorem dX7_settle_8 : decode cX7_settle 8 = .ok (.getfield 35, 3) := by decide +kernel
theorem dX7_settle_11 : decode cX7_settle 11 = .ok (.aload_n 0, 1) := by decide +kernel
theorem dX7_settle_12 : decode cX7_settle 12 = .ok (.getfield 234, 3) := by decide +kernel
theorem dX7_settle_15 : decode cX7_settle 15 = .ok (.iconst 1, 1) := by decide +kernel
theorem dX7_settle_16 : decode cX7_settle 16 = .ok (.isub, 1) := by decide +kernel
theorem dX7_settle_17 : decode cX7_settle 17 = .ok (.iaload, 1) := by decide +kernel
theorem dX7_settle_18 : decode cX7_settle 18 = .ok (.bipush (-11), 2) := by decide +kernel
theorem dX7_settle_20 : decode cX7_settle 20 = .ok (.if_icmp .eq 62, 3) := by decide +kernel
theorem dX7_settle_23 : decode cX7_settle 23 = .ok (.aload_n 0, 1) := by decide +kernel
theorem dX7_settle_24 : decode cX7_settle 24 = .ok (.getfield 35, 3) := by decide +kernel
theorem dX7_settle_27 : decode cX7_settle 27 = .ok (.aload_n 0, 1) := by decide +kernel
theorem dX7_settle_28 : decode cX7_settle 28 = .ok (.getfield 234, 3) := by decide +kernel
theorem dX7_settle_31 : decode cX7_settle 31 = .ok (.iconst 1, 1) := by decide +kernel
theorem dX7_settle_32 : decode cX7_settle 32 = .ok (.isub, 1) := by decide +kernel
theorem dX7_settle_33 : decode cX7_settle 33 = .ok (.iaload, 1) := by decide +kernel
theorem dX7_settle_34 : decode cX7_settle 34 = .ok (.invokestatic 237, 3) := by decide +kernel
theorem dX7_settle_37 : decode cX7_settle 37 = .ok (.iload_n 1, 1) := by decide +kernel
theorem dX7_settle_38 : decode cX7_settle 38 = .ok (.if_icmp .lt 44, 3) := by decide +kernel
theorem dX7_settle_41 : decode cX7_settle 41 = .ok (.aload_n 0, 1) := by decide +kernel
theorem dX7_settle_42 : decode cX7_settle 42 = .ok (.dup, 1) := by decide +kernel
theorem dX7_settle_43 : decode cX7_settle 43 = .ok (.getfield 234, 3) := by decide +kernel
theorem dX7_settle_46 : decode cX7_settle 46 = .ok (.iconst 1, 1) := by decide +kernel
theorem dX7_settle_47 : decode cX7_settle 47 = .ok (.isub, 1) := by decide +kernel
theorem dX7_settle_48 : decode cX7_settle 48 = .ok (.putfield 234, 3) := by decide +kernel
theorem dX7_settle_51 : decode cX7_settle 51 = .ok (.aload_n 0, 1) := by decide +kernel
theorem dX7_settle_52 : decode cX7_settle 52 = .ok (.getfield 32, 3) := by decide +kernel
theorem dX7_settle_55 : decode cX7_settle 55 = .ok (.aload_n 0, 1) := by decide +kernel
theorem dX7_settle_56 : decode cX7_settle 56 = .ok (.getfield 240, 3) := by decide +kernel
theorem dX7_settle_59 : decode cX7_settle 59 = .ok (.aload_n 0, 1) := by decide +kernel
theorem dX7_settle_60 : decode cX7_settle 60 = .ok (.getfield 35, 3) := by decide +kernel
theorem dX7_settle_63 : decode cX7_settle 63 = .ok (.aload_n 0, 1) := by decide +kernel
theorem dX7_settle_64 : decode cX7_settle 64 = .ok (.getfield 234, 3) := by decide +kernel
theorem dX7_settle_67 : decode cX7_settle 67 = .ok (.iaload, 1) := by decide +kernel
theorem dX7_settle_68 : decode cX7_settle 68 = .ok (.iastore, 1) := by decide +kernel
theorem dX7_settle_69 : decode cX7_settle 69 = .ok (.aload_n 0, 1) := by decide +kernel
theorem dX7_settle_70 : decode cX7_settle 70 = .ok (.dup, 1) := by decide +kernel
theorem dX7_settle_71 : decode cX7_settle 71 = .ok (.getfield 240, 3) := by decide +kernel
theorem dX7_settle_74 : decode cX7_settle 74 = .ok (.iconst 1, 1) := by decide +kernel
theorem dX7_settle_75 : decode cX7_settle 75 = .ok (.iadd, 1) := by decide +kernel
theorem dX7_settle_76 : decode cX7_settle 76 = .ok (.putfield 240, 3) := by decide +kernel
theorem dX7_settle_79 : decode cX7_settle 79 = .ok (.goto (-79), 3) := by decide +kernel
theorem dX7_settle_82 : decode cX7_settle 82 = .ok (.return_, 1) := by decide +kernel
theorem dX7_signHere_0 : decode cX7_signHere 0 = .ok (.aload_n 0, 1) := by decide +kernel
theorem dX7_signHere_1 : decode cX7_signHere 1 = .ok (.getfield 216, 3) := by decide +kernel
theorem dX7_signHere_4 : decode cX7_signHere 4 = .ok (.iconst 3, 1) := by decide +kernel
theorem dX7_signHere_5 : decode cX7_signHere 5 = .ok (.if_icmp .eq 5, 3) := by decide +kernel
theorem dX7_signHere_8 : decode cX7_signHere 8 = .ok (.iconst 0, 1) := by decide +kernel
theorem dX7_signHere_9 : decode cX7_signHere 9 = .ok (.ireturn, 1) := by decide +kernel
theorem dX7_signHere_10 : decode cX7_signHere 10 = .ok (.aload_n 0, 1) := by decide +kernel
theorem dX7_signHere_11 : decode cX7_signHere 11 = .ok (.getfield 222, 3) := by decide +kernel
theorem dX7_signHere_14 : decode cX7_signHere 14 = .ok (.lookupswitch 108 #[(38, 84), (42, 102), (43, 96), (45, 99), (47, 105), (60, 87), (61, 90), (62, 93), (124, 82)], 82) := by decide +kernel
theorem dX7_signHere_96 : decode cX7_signHere 96 = .ok (.iconst (-1), 1) := by decide +kernel
theorem dX7_signHere_97 : decode cX7_signHere 97 = .ok (.ireturn, 1) := by decide +kernel
theorem dX7_signHere_98 : decode cX7_signHere 98 = .ok (.bipush (-2), 2) := by decide +kernel
theorem dX7_signHere_100 : decode cX7_signHere 100 = .ok (.ireturn, 1) := by decide +kernel
theorem dX7_signHere_101 : decode cX7_signHere 101 = .ok (.bipush (-3), 2) := by decide +kernel
theorem dX7_signHere_103 : decode cX7_signHere 103 = .ok (.ireturn, 1) := by decide +kernel
theorem dX7_signHere_104 : decode cX7_signHere 104 = .ok (.bipush (-4), 2) := by decide +kernel
theorem dX7_signHere_106 : decode cX7_signHere 106 = .ok (.ireturn, 1) := by decide +kernel
theorem dX7_signHere_107 : decode cX7_signHere 107 = .ok (.bipush (-5), 2) := by decide +kernel
theorem dX7_signHere_109 : decode cX7_signHere 109 = .ok (.ireturn, 1) := by decide +kernel
theorem dX7_signHere_110 : decode cX7_signHere 110 = .ok (.bipush (-6), 2) := by decide +kernel
theorem dX7_signHere_112 : decode cX7_signHere 112 = .ok (.ireturn, 1) := by decide +kernel
theorem dX7_signHere_113 : decode cX7_signHere 113 = .ok (.bipush (-7), 2) := by decide +kernel
theorem dX7_signHere_115 : decode cX7_signHere 115 = .ok (.ireturn, 1) := by decide +kernel
theorem dX7_signHere_116 : decode cX7_signHere 116 = .ok (.bipush (-8), 2) := by decide +kernel
theorem dX7_signHere_118 : decode cX7_signHere 118 = .ok (.ireturn, 1) := by decide +kernel
theorem dX7_signHere_119 : decode cX7_signHere 119 = .ok (.bipush (-9), 2) := by decide +kernel
theorem dX7_signHere_121 : decode cX7_signHere 121 = .ok (.ireturn, 1) := by decide +kernel
theorem dX7_signHere_122 : decode cX7_signHere 122 = .ok (.iconst 0, 1) := by decide +kernel
theorem dX7_signHere_123 : decode cX7_signHere 123 = .ok (.ireturn, 1) := by decide +kernel
theorem dX7_takesPart_0 : decode cX7_takesPart 0 = .ok (.aload_n 0, 1) := by decide +kernel
theorem dX7_takesPart_1 : decode cX7_takesPart 1 = .ok (.getfield 216, 3) := by decide +kernel
theorem dX7_takesPart_4 : decode cX7_takesPart 4 = .ok (.iconst 1, 1) := by decide +kernel
theorem dX7_takesPart_5 : decode cX7_takesPart 5 = .ok (.if_icmp .ne 31, 3) := by decide +kernel
theorem dX7_takesPart_8 : decode cX7_takesPart 8 = .ok (.aload_n 0, 1) := by decide +kernel
theorem dX7_takesPart_9 : decode cX7_takesPart 9 = .ok (.getfield 207, 3) := by decide +kernel
theorem dX7_takesPart_12 : decode cX7_takesPart 12 = .ok (.aload_n 0, 1) := by decide +kernel
theorem dX7_takesPart_13 : decode cX7_takesPart 13 = .ok (.getfield 210, 3) := by decide +kernel
theorem dX7_takesPart_16 : decode cX7_takesPart 16 = .ok (.isub, 1) := by decide +kernel
theorem dX7_takesPart_17 : decode cX7_takesPart 17 = .ok (.iconst 1, 1) := by decide +kernel
theorem dX7_takesPart_18 : decode cX7_takesPart 18 = .ok (.if_icmp .ne 18, 3) := by decide +kernel
theorem dX7_takesPart_21 : decode cX7_takesPart 21 = .ok (.aload_n 0, 1) := by decide +kernel
theorem dX7_takesPart_22 : decode cX7_takesPart 22 = .ok (.aload_n 0, 1) := by decide +kernel
theorem dX7_takesPart_23 : decode cX7_takesPart 23 = .ok (.getfield 222, 3) := by decide +kernel
theorem dX7_takesPart_26 : decode cX7_takesPart 26 = .ok (.invokevirtual 243, 3) := by decide +kernel
theorem dX7_takesPart_29 : decode cX7_takesPart 29 = .ok (.ifCond .lt 7, 3) := by decide +kernel
theorem dX7_takesPart_32 : decode cX7_takesPart 32 = .ok (.iconst 1, 1) := by decide +kernel
theorem dX7_takesPart_33 : decode cX7_takesPart 33 = .ok (.goto 4, 3) := by decide +kernel
theorem dX7_takesPart_36 : decode cX7_takesPart 36 = .ok (.iconst 0, 1) := by decide +kernel
theorem dX7_takesPart_37 : decode cX7_takesPart 37 = .ok (.istore_n 1, 1) := by decide +kernel
theorem dX7_takesPart_38 : decode cX7_takesPart 38 = .ok (.aload_n 0, 1) := by decide +kernel
theorem dX7_takesPart_39 : decode cX7_takesPart 39 = .ok (.getfield 216, 3) := by decide +kernel
theorem dX7_takesPart_42 : decode cX7_takesPart 42 = .ok (.iconst 2, 1) := by decide +kernel
theorem dX7_takesPart_43 : decode cX7_takesPart 43 = .ok (.if_icmp .eq 9, 3) := by decide +kernel
theorem dX7_takesPart_46 : decode cX7_takesPart 46 = .ok (.iload_n 1, 1) := by decide +kernel
theorem dX7_takesPart_47 : decode cX7_takesPart 47 = .ok (.ifCond .ne 5, 3) := by decide +kernel
theorem dX7_takesPart_50 : decode cX7_takesPart 50 = .ok (.iconst 0, 1) := by decide +kernel
theorem dX7_takesPart_51 : decode cX7_takesPart 51 = .ok (.ireturn, 1) := by decide +kernel
theorem dX7_takesPart_52 : decode cX7_takesPart 52 = .ok (.aload_n 0, 1) := by decide +kernel
theorem dX7_takesPart_53 : decode cX7_takesPart 53 = .ok (.getfield 32, 3) := by decide +kernel
theorem dX7_takesPart_56 : decode cX7_takesPart 56 = .ok (.aload_n 0, 1) := by decide +kernel
theorem dX7_takesPart_57 : decode cX7_takesPart 57 = .ok (.getfield 240, 3) := by decide +kernel
theorem dX7_takesPart_60 : decode cX7_takesPart 60 = .ok (.aload_n 0, 1) := by decide +kernel
theorem dX7_takesPart_61 : decode cX7_takesPart 61 = .ok (.getfield 216, 3) := by decide +kernel
theorem dX7_takesPart_64 : decode cX7_takesPart 64 = .ok (.iconst 2, 1) := by decide +kernel
theorem dX7_takesPart_65 : decode cX7_takesPart 65 = .ok (.if_icmp .ne 10, 3) := by decide +kernel
theorem dX7_takesPart_68 : decode cX7_takesPart 68 = .ok (.aload_n 0, 1) := by decide +kernel
theorem dX7_takesPart_69 : decode cX7_takesPart 69 = .ok (.getfield 222, 3) := by decide +kernel
theorem dX7_takesPart_72 : decode cX7_takesPart 72 = .ok (.goto 15, 3) := by decide +kernel
theorem dX7_takesPart_75 : decode cX7_takesPart 75 = .ok (.sipush 10000, 3) := by decide +kernel
theorem dX7_takesPart_78 : decode cX7_takesPart 78 = .ok (.aload_n 0, 1) := by decide +kernel
theorem dX7_takesPart_79 : decode cX7_takesPart 79 = .ok (.aload_n 0, 1) := by decide +kernel
theorem dX7_takesPart_80 : decode cX7_takesPart 80 = .ok (.getfield 222, 3) := by decide +kernel
theorem dX7_takesPart_83 : decode cX7_takesPart 83 = .ok (.invokevirtual 243, 3) := by decide +kernel
theorem dX7_takesPart_86 : decode cX7_takesPart 86 = .ok (.iadd, 1) := by decide +kernel
theorem dX7_takesPart_87 : decode cX7_takesPart 87 = .ok (.iastore, 1) := by decide +kernel
theorem dX7_takesPart_88 : decode cX7_takesPart 88 = .ok (.aload_n 0, 1) := by decide +kernel
theorem dX7_takesPart_89 : decode cX7_takesPart 89 = .ok (.dup, 1) := by decide +kernel
theorem dX7_takesPart_90 : decode cX7_takesPart 90 = .ok (.getfield 240, 3) := by decide +kernel
theorem dX7_takesPart_93 : decode cX7_takesPart 93 = .ok (.iconst 1, 1) := by decide +kernel
theorem dX7_takesPart_94 : decode cX7_takesPart 94 = .ok (.iadd, 1) := by decide +kernel
theorem dX7_takesPart_95 : decode cX7_takesPart 95 = .ok (.putfield 240, 3) := by decide +kernel
theorem dX7_takesPart_98 : decode cX7_takesPart 98 = .ok (.aload_n 0, 1) := by decide +kernel
theorem dX7_takesPart_99 : decode cX7_takesPart 99 = .ok (.dup, 1) := by decide +kernel
theorem dX7_takesPart_100 : decode cX7_takesPart 100 = .ok (.getfield 246, 3) := by decide +kernel
theorem dX7_takesPart_103 : decode cX7_takesPart 103 = .ok (.iconst 1, 1) := by decide +kernel
theorem dX7_takesPart_104 : decode cX7_takesPart 104 = .ok (.iadd, 1) := by decide +kernel
theorem dX7_takesPart_105 : decode cX7_takesPart 105 = .ok (.putfield 246, 3) := by decide +kernel
theorem dX7_takesPart_108 : decode cX7_takesPart 108 = .ok (.aload_n 0, 1) := by decide +kernel
theorem dX7_takesPart_109 : decode cX7_takesPart 109 = .ok (.bipush 6, 2) := by decide +kernel
theorem dX7_takesPart_111 : decode cX7_takesPart 111 = .ok (.invokevirtual 249, 3) := by decide +kernel
theorem dX7_takesPart_114 : decode cX7_takesPart 114 = .ok (.aload_n 0, 1) := by decide +kernel
theorem dX7_takesPart_115 : decode cX7_takesPart 115 = .ok (.invokevirtual 231, 3) := by decide +kernel
theorem dX7_takesPart_118 : decode cX7_takesPart 118 = .ok (.iconst 1, 1) := by decide +kernel
theorem dX7_takesPart_119 : decode cX7_takesPart 119 = .ok (.ireturn, 1) := by decide +kernel
theorem dX7_takesE_0 : decode cX7_takesE 0 = .ok (.iconst 0, 1) := by decide +kernel
theorem dX7_takesE_1 : decode cX7_takesE 1 = .ok (.istore_n 1, 1) := by decide +kernel
theorem dX7_takesE_2 : decode cX7_takesE 2 = .ok (.iconst 0, 1) := by decide +kernel
theorem dX7_takesE_3 : decode cX7_takesE 3 = .ok (.istore_n 2, 1) := by decide +kernel
theorem dX7_takesE_4 : decode cX7_takesE 4 = .ok (.iconst 1, 1) := by decide +kernel
theorem dX7_takesE_5 : decode cX7_takesE 5 = .ok (.istore_n 3, 1) := by decide +kernel
theorem dX7_takesE_6 : decode cX7_takesE 6 = .ok (.aload_n 0, 1) := by decide +kernel
theorem dX7_takesE_7 : decode cX7_takesE 7 = .ok (.iconst 0, 1) := by decide +kernel
theorem dX7_takesE_8 : decode cX7_takesE 8 = .ok (.putfield 240, 3) := by decide +kernel
theorem dX7_takesE_11 : decode cX7_takesE 11 = .ok (.aload_n 0, 1) := by decide +kernel
theorem dX7_takesE_12 : decode cX7_takesE 12 = .ok (.iconst 0, 1) := by decide +kernel
theorem dX7_takesE_13 : decode cX7_takesE 13 = .ok (.putfield 246, 3) := by decide +kernel
theorem dX7_takesE_16 : decode cX7_takesE 16 = .ok (.aload_n 0, 1) := by decide +kernel
theorem dX7_takesE_17 : decode cX7_takesE 17 = .ok (.iconst 0, 1) := by decide +kernel
theorem dX7_takesE_18 : decode cX7_takesE 18 = .ok (.putfield 234, 3) := by decide +kernel
theorem dX7_takesE_21 : decode cX7_takesE 21 = .ok (.aload_n 0, 1) := by decide +kernel
theorem dX7_takesE_22 : decode cX7_takesE 22 = .ok (.getfield 38, 3) := by decide +kernel
theorem dX7_takesE_25 : decode cX7_takesE 25 = .ok (.iconst 0, 1) := by decide +kernel
theorem dX7_takesE_26 : decode cX7_takesE 26 = .ok (.iconst 0, 1) := by decide +kernel
theorem dX7_takesE_27 : decode cX7_takesE 27 = .ok (.bastore, 1) := by decide +kernel
theorem dX7_takesE_28 : decode cX7_takesE 28 = .ok (.iload_n 3, 1) := by decide +kernel
theorem dX7_takesE_29 : decode cX7_takesE 29 = .ok (.ifCond .ne 10, 3) := by decide +kernel
theorem dX7_takesE_32 : decode cX7_takesE 32 = .ok (.aload_n 0, 1) := by decide +kernel
theorem dX7_takesE_33 : decode cX7_takesE 33 = .ok (.getfield 216, 3) := by decide +kernel
theorem dX7_takesE_36 : decode cX7_takesE 36 = .ok (.ifCond .eq 309, 3) := by decide +kernel
theorem dX7_takesE_39 : decode cX7_takesE 39 = .ok (.iload_n 3, 1) := by decide +kernel
theorem dX7_takesE_40 : decode cX7_takesE 40 = .ok (.ifCond .eq 140, 3) := by decide +kernel
theorem dX7_takesE_43 : decode cX7_takesE 43 = .ok (.aload_n 0, 1) := by decide +kernel
theorem dX7_takesE_44 : decode cX7_takesE 44 = .ok (.getfield 216, 3) := by decide +kernel
theorem dX7_takesE_47 : decode cX7_takesE 47 = .ok (.iconst 3, 1) := by decide +kernel
theorem dX7_takesE_48 : decode cX7_takesE 48 = .ok (.if_icmp .ne 49, 3) := by decide +kernel
theorem dX7_takesE_51 : decode cX7_takesE 51 = .ok (.aload_n 0, 1) := by decide +kernel
theorem dX7_takesE_52 : decode cX7_takesE 52 = .ok (.getfield 222, 3) := by decide +kernel
theorem dX7_takesE_55 : decode cX7_takesE 55 = .ok (.bipush 33, 2) := by decide +kernel
theorem dX7_takesE_57 : decode cX7_takesE 57 = .ok (.if_icmp .ne 40, 3) := by decide +kernel
theorem dX7_takesE_60 : decode cX7_takesE 60 = .ok (.iload_n 2, 1) := by decide +kernel
theorem dX7_takesE_61 : decode cX7_takesE 61 = .ok (.bipush 8, 2) := by decide +kernel
theorem dX7_takesE_63 : decode cX7_takesE 63 = .ok (.if_icmp .ge 34, 3) := by decide +kernel
theorem dX7_takesE_66 : decode cX7_takesE 66 = .ok (.aload_n 0, 1) := by decide +kernel
theorem dX7_takesE_67 : decode cX7_takesE 67 = .ok (.getfield 35, 3) := by decide +kernel
theorem dX7_takesE_70 : decode cX7_takesE 70 = .ok (.aload_n 0, 1) := by decide +kernel
theorem dX7_takesE_71 : decode cX7_takesE 71 = .ok (.getfield 234, 3) := by decide +kernel
theorem dX7_takesE_74 : decode cX7_takesE 74 = .ok (.bipush (-10), 2) := by decide +kernel
theorem dX7_takesE_76 : decode cX7_takesE 76 = .ok (.iastore, 1) := by decide +kernel
theorem dX7_takesE_77 : decode cX7_takesE 77 = .ok (.aload_n 0, 1) := by decide +kernel
theorem dX7_takesE_78 : decode cX7_takesE 78 = .ok (.dup, 1) := by decide +kernel
theorem dX7_takesE_79 : decode cX7_takesE 79 = .ok (.getfield 234, 3) := by decide +kernel
theorem dX7_takesE_82 : decode cX7_takesE 82 = .ok (.iconst 1, 1) := by decide +kernel
theorem dX7_takesE_83 : decode cX7_takesE 83 = .ok (.iadd, 1) := by decide +kernel
theorem dX7_takesE_84 : decode cX7_takesE 84 = .ok (.putfield 234, 3) := by decide +kernel
theorem dX7_takesE_87 : decode cX7_takesE 87 = .ok (.iinc 2 1, 3) := by decide +kernel
theorem dX7_takesE_90 : decode cX7_takesE 90 = .ok (.aload_n 0, 1) := by decide +kernel
theorem dX7_takesE_91 : decode cX7_takesE 91 = .ok (.invokevirtual 231, 3) := by decide +kernel
theorem dX7_takesE_94 : decode cX7_takesE 94 = .ok (.goto 78, 3) := by decide +kernel
theorem dX7_takesE_97 : decode cX7_takesE 97 = .ok (.aload_n 0, 1) := by decide +kernel
theorem dX7_takesE_98 : decode cX7_takesE 98 = .ok (.getfield 216, 3) := by decide +kernel
theorem dX7_takesE_101 : decode cX7_takesE 101 = .ok (.iconst 3, 1) := by decide +kernel
theorem dX7_takesE_102 : decode cX7_takesE 102 = .ok (.if_icmp .ne 56, 3) := by decide +kernel
theorem dX7_takesE_105 : decode cX7_takesE 105 = .ok (.aload_n 0, 1) := by decide +kernel
theorem dX7_takesE_106 : decode cX7_takesE 106 = .ok (.getfield 222, 3) := by decide +kernel
theorem dX7_takesE_109 : decode cX7_takesE 109 = .ok (.bipush 40, 2) := by decide +kernel
theorem dX7_takesE_111 : decode cX7_takesE 111 = .ok (.if_icmp .ne 47, 3) := by decide +kernel
theorem dX7_takesE_114 : decode cX7_takesE 114 = .ok (.iload_n 1, 1) := by decide +kernel
theorem dX7_takesE_115 : decode cX7_takesE 115 = .ok (.bipush 8, 2) := by decide +kernel
theorem dX7_takesE_117 : decode cX7_takesE 117 = .ok (.if_icmp .ge 41, 3) := by decide +kernel
theorem dX7_takesE_120 : decode cX7_takesE 120 = .ok (.aload_n 0, 1) := by decide +kernel
theorem dX7_takesE_121 : decode cX7_takesE 121 = .ok (.getfield 35, 3) := by decide +kernel
theorem dX7_takesE_124 : decode cX7_takesE 124 = .ok (.aload_n 0, 1) := by decide +kernel
theorem dX7_takesE_125 : decode cX7_takesE 125 = .ok (.getfield 234, 3) := by decide +kernel
theorem dX7_takesE_128 : decode cX7_takesE 128 = .ok (.bipush (-11), 2) := by decide +kernel
theorem dX7_takesE_130 : decode cX7_takesE 130 = .ok (.iastore, 1) := by decide +kernel
theorem dX7_takesE_131 : decode cX7_takesE 131 = .ok (.aload_n 0, 1) := by decide +kernel
theorem dX7_takesE_132 : decode cX7_takesE 132 = .ok (.dup, 1) := by decide +kernel
theorem dX7_takesE_133 : decode cX7_takesE 133 = .ok (.getfield 234, 3) := by decide +kernel
theorem dX7_takesE_136 : decode cX7_takesE 136 = .ok (.iconst 1, 1) := by decide +kernel
theorem dX7_takesE_137 : decode cX7_takesE 137 = .ok (.iadd, 1) := by decide +kernel
theorem dX7_takesE_138 : decode cX7_takesE 138 = .ok (.putfield 234, 3) := by decide +kernel
theorem dX7_takesE_141 : decode cX7_takesE 141 = .ok (.iinc 1 1, 3) := by decide +kernel
theorem dX7_takesE_144 : decode cX7_takesE 144 = .ok (.aload_n 0, 1) := by decide +kernel
theorem dX7_takesE_145 : decode cX7_takesE 145 = .ok (.getfield 38, 3) := by decide +kernel
theorem dX7_takesE_148 : decode cX7_takesE 148 = .ok (.iload_n 1, 1) := by decide +kernel
theorem dX7_takesE_149 : decode cX7_takesE 149 = .ok (.iconst 0, 1) := by decide +kernel
theorem dX7_takesE_150 : decode cX7_takesE 150 = .ok (.bastore, 1) := by decide +kernel
theorem dX7_takesE_151 : decode cX7_takesE 151 = .ok (.aload_n 0, 1) := by decide +kernel
theorem dX7_takesE_152 : decode cX7_takesE 152 = .ok (.invokevirtual 231, 3) := by decide +kernel
theorem dX7_takesE_155 : decode cX7_takesE 155 = .ok (.goto 17, 3) := by decide +kernel
theorem dX7_takesE_158 : decode cX7_takesE 158 = .ok (.aload_n 0, 1) := by decide +kernel
theorem dX7_takesE_159 : decode cX7_takesE 159 = .ok (.invokevirtual 252, 3) := by decide +kernel
theorem dX7_takesE_162 : decode cX7_takesE 162 = .ok (.ifCond .eq 8, 3) := by decide +kernel
theorem dX7_takesE_165 : decode cX7_takesE 165 = .ok (.iconst 0, 1) := by decide +kernel
theorem dX7_takesE_166 : decode cX7_takesE 166 = .ok (.istore_n 3, 1) := by decide +kernel
theorem dX7_takesE_167 : decode cX7_takesE 167 = .ok (.goto 5, 3) := by decide +kernel
theorem dX7_takesE_170 : decode cX7_takesE 170 = .ok (.iconst 0, 1) := by decide +kernel
theorem dX7_takesE_171 : decode cX7_takesE 171 = .ok (.ireturn, 1) := by decide +kernel
theorem dX7_takesE_172 : decode cX7_takesE 172 = .ok (.aload_n 0, 1) := by decide +kernel
theorem dX7_takesE_173 : decode cX7_takesE 173 = .ok (.invokevirtual 256, 3) := by decide +kernel
theorem dX7_takesE_176 : decode cX7_takesE 176 = .ok (.istore_n 2, 1) := by decide +kernel
theorem dX7_takesE_177 : decode cX7_takesE 177 = .ok (.goto (-149), 3) := by decide +kernel
theorem dX7_takesE_180 : decode cX7_takesE 180 = .ok (.aload_n 0, 1) := by decide +kernel
theorem dX7_takesE_181 : decode cX7_takesE 181 = .ok (.getfield 216, 3) := by decide +kernel
theorem dX7_takesE_184 : decode cX7_takesE 184 = .ok (.iconst 3, 1) := by decide +kernel
theorem dX7_takesE_185 : decode cX7_takesE 185 = .ok (.if_icmp .ne 52, 3) := by decide +kernel
theorem dX7_takesE_188 : decode cX7_takesE 188 = .ok (.aload_n 0, 1) := by decide +kernel
theorem dX7_takesE_189 : decode cX7_takesE 189 = .ok (.getfield 222, 3) := by decide +kernel
theorem dX7_takesE_192 : decode cX7_takesE 192 = .ok (.bipush 41, 2) := by decide +kernel
theorem dX7_takesE_194 : decode cX7_takesE 194 = .ok (.if_icmp .ne 43, 3) := by decide +kernel
theorem dX7_takesE_197 : decode cX7_takesE 197 = .ok (.iload_n 1, 1) := by decide +kernel
theorem dX7_takesE_198 : decode cX7_takesE 198 = .ok (.ifCond .le 39, 3) := by decide +kernel
theorem dX7_takesE_201 : decode cX7_takesE 201 = .ok (.aload_n 0, 1) := by decide +kernel
theorem dX7_takesE_202 : decode cX7_takesE 202 = .ok (.iconst 0, 1) := by decide +kernel
theorem dX7_takesE_203 : decode cX7_takesE 203 = .ok (.invokevirtual 249, 3) := by decide +kernel
theorem dX7_takesE_206 : decode cX7_takesE 206 = .ok (.aload_n 0, 1) := by decide +kernel
theorem dX7_takesE_207 : decode cX7_takesE 207 = .ok (.dup, 1) := by decide +kernel
theorem dX7_takesE_208 : decode cX7_takesE 208 = .ok (.getfield 234, 3) := by decide +kernel
theorem dX7_takesE_211 : decode cX7_takesE 211 = .ok (.iconst 1, 1) := by decide +kernel
theorem dX7_takesE_212 : decode cX7_takesE 212 = .ok (.isub, 1) := by decide +kernel
theorem dX7_takesE_213 : decode cX7_takesE 213 = .ok (.putfield 234, 3) := by decide +kernel
theorem dX7_takesE_216 : decode cX7_takesE 216 = .ok (.iinc 1 (-1), 3) := by decide +kernel
theorem dX7_takesE_219 : decode cX7_takesE 219 = .ok (.aload_n 0, 1) := by decide +kernel
theorem dX7_takesE_220 : decode cX7_takesE 220 = .ok (.bipush 6, 2) := by decide +kernel
theorem dX7_takesE_222 : decode cX7_takesE 222 = .ok (.invokevirtual 249, 3) := by decide +kernel
theorem dX7_takesE_225 : decode cX7_takesE 225 = .ok (.aload_n 0, 1) := by decide +kernel
theorem dX7_takesE_226 : decode cX7_takesE 226 = .ok (.invokevirtual 256, 3) := by decide +kernel
theorem dX7_takesE_229 : decode cX7_takesE 229 = .ok (.istore_n 2, 1) := by decide +kernel
theorem dX7_takesE_230 : decode cX7_takesE 230 = .ok (.aload_n 0, 1) := by decide +kernel
theorem dX7_takesE_231 : decode cX7_takesE 231 = .ok (.invokevirtual 231, 3) := by decide +kernel
theorem dX7_takesE_234 : decode cX7_takesE 234 = .ok (.goto (-206), 3) := by decide +kernel
theorem dX7_takesE_237 : decode cX7_takesE 237 = .ok (.aload_n 0, 1) := by decide +kernel
theorem dX7_takesE_238 : decode cX7_takesE 238 = .ok (.invokevirtual 259, 3) := by decide +kernel
theorem dX7_takesE_241 : decode cX7_takesE 241 = .ok (.istore 4, 2) := by decide +kernel
theorem dX7_takesE_243 : decode cX7_takesE 243 = .ok (.iload 4, 2) := by decide +kernel
theorem dX7_takesE_245 : decode cX7_takesE 245 = .ok (.ifCond .eq 21, 3) := by decide +kernel
theorem dX7_takesE_248 : decode cX7_takesE 248 = .ok (.iload 4, 2) := by decide +kernel
theorem dX7_takesE_250 : decode cX7_takesE 250 = .ok (.invokestatic 237, 3) := by decide +kernel
theorem dX7_takesE_253 : decode cX7_takesE 253 = .ok (.iconst 3, 1) := by decide +kernel
theorem dX7_takesE_254 : decode cX7_takesE 254 = .ok (.if_icmp .ne 14, 3) := by decide +kernel
theorem dX7_takesE_257 : decode cX7_takesE 257 = .ok (.aload_n 0, 1) := by decide +kernel
theorem dX7_takesE_258 : decode cX7_takesE 258 = .ok (.getfield 38, 3) := by decide +kernel
theorem dX7_takesE_261 : decode cX7_takesE 261 = .ok (.iload_n 1, 1) := by decide +kernel
theorem dX7_takesE_262 : decode cX7_takesE 262 = .ok (.baload, 1) := by decide +kernel
theorem dX7_takesE_263 : decode cX7_takesE 263 = .ok (.ifCond .eq 5, 3) := by decide +kernel
theorem dX7_takesE_266 : decode cX7_takesE 266 = .ok (.iconst 0, 1) := by decide +kernel
theorem dX7_takesE_267 : decode cX7_takesE 267 = .ok (.ireturn, 1) := by decide +kernel
theorem dX7_takesE_268 : decode cX7_takesE 268 = .ok (.aload_n 0, 1) := by decide +kernel
theorem dX7_takesE_269 : decode cX7_takesE 269 = .ok (.getfield 38, 3) := by decide +kernel
theorem dX7_takesE_272 : decode cX7_takesE 272 = .ok (.iload_n 1, 1) := by decide +kernel
theorem dX7_takesE_273 : decode cX7_takesE 273 = .ok (.iload 4, 2) := by decide +kernel
theorem dX7_takesE_275 : decode cX7_takesE 275 = .ok (.invokestatic 237, 3) := by decide +kernel
theorem dX7_takesE_278 : decode cX7_takesE 278 = .ok (.iconst 3, 1) := by decide +kernel
theorem dX7_takesE_279 : decode cX7_takesE 279 = .ok (.if_icmp .eq 21, 3) := by decide +kernel
theorem dX7_takesE_282 : decode cX7_takesE 282 = .ok (.iload 4, 2) := by decide +kernel
theorem dX7_takesE_284 : decode cX7_takesE 284 = .ok (.invokestatic 237, 3) := by decide +kernel
theorem dX7_takesE_287 : decode cX7_takesE 287 = .ok (.iconst 3, 1) := by decide +kernel
theorem dX7_takesE_288 : decode cX7_takesE 288 = .ok (.if_icmp .le 16, 3) := by decide +kernel
theorem dX7_takesE_291 : decode cX7_takesE 291 = .ok (.aload_n 0, 1) := by decide +kernel
theorem dX7_takesE_292 : decode cX7_takesE 292 = .ok (.getfield 38, 3) := by decide +kernel
theorem dX7_takesE_295 : decode cX7_takesE 295 = .ok (.iload_n 1, 1) := by decide +kernel
theorem dX7_takesE_296 : decode cX7_takesE 296 = .ok (.baload, 1) := by decide +kernel
theorem dX7_takesE_297 : decode cX7_takesE 297 = .ok (.ifCond .eq 7, 3) := by decide +kernel
theorem dX7_takesE_300 : decode cX7_takesE 300 = .ok (.iconst 1, 1) := by decide +kernel
theorem dX7_takesE_301 : decode cX7_takesE 301 = .ok (.goto 4, 3) := by decide +kernel
theorem dX7_takesE_304 : decode cX7_takesE 304 = .ok (.iconst 0, 1) := by decide +kernel
theorem dX7_takesE_305 : decode cX7_takesE 305 = .ok (.bastore, 1) := by decide +kernel
theorem dX7_takesE_306 : decode cX7_takesE 306 = .ok (.aload_n 0, 1) := by decide +kernel
theorem dX7_takesE_307 : decode cX7_takesE 307 = .ok (.iload 4, 2) := by decide +kernel
theorem dX7_takesE_309 : decode cX7_takesE 309 = .ok (.invokestatic 237, 3) := by decide +kernel
theorem dX7_takesE_312 : decode cX7_takesE 312 = .ok (.invokevirtual 249, 3) := by decide +kernel
theorem dX7_takesE_315 : decode cX7_takesE 315 = .ok (.aload_n 0, 1) := by decide +kernel
theorem dX7_takesE_316 : decode cX7_takesE 316 = .ok (.getfield 35, 3) := by decide +kernel
theorem dX7_takesE_319 : decode cX7_takesE 319 = .ok (.aload_n 0, 1) := by decide +kernel
theorem dX7_takesE_320 : decode cX7_takesE 320 = .ok (.getfield 234, 3) := by decide +kernel
theorem dX7_takesE_323 : decode cX7_takesE 323 = .ok (.iload 4, 2) := by decide +kernel
theorem dX7_takesE_325 : decode cX7_takesE 325 = .ok (.iastore, 1) := by decide +kernel
theorem dX7_takesE_326 : decode cX7_takesE 326 = .ok (.aload_n 0, 1) := by decide +kernel
theorem dX7_takesE_327 : decode cX7_takesE 327 = .ok (.dup, 1) := by decide +kernel
theorem dX7_takesE_328 : decode cX7_takesE 328 = .ok (.getfield 234, 3) := by decide +kernel
theorem dX7_takesE_331 : decode cX7_takesE 331 = .ok (.iconst 1, 1) := by decide +kernel
theorem dX7_takesE_332 : decode cX7_takesE 332 = .ok (.iadd, 1) := by decide +kernel
theorem dX7_takesE_333 : decode cX7_takesE 333 = .ok (.putfield 234, 3) := by decide +kernel
theorem dX7_takesE_336 : decode cX7_takesE 336 = .ok (.iconst 1, 1) := by decide +kernel
theorem dX7_takesE_337 : decode cX7_takesE 337 = .ok (.istore_n 3, 1) := by decide +kernel
theorem dX7_takesE_338 : decode cX7_takesE 338 = .ok (.aload_n 0, 1) := by decide +kernel
theorem dX7_takesE_339 : decode cX7_takesE 339 = .ok (.invokevirtual 231, 3) := by decide +kernel
theorem dX7_takesE_342 : decode cX7_takesE 342 = .ok (.goto (-314), 3) := by decide +kernel
theorem dX7_takesE_345 : decode cX7_takesE 345 = .ok (.aload_n 0, 1) := by decide +kernel
theorem dX7_takesE_346 : decode cX7_takesE 346 = .ok (.iconst 0, 1) := by decide +kernel
theorem dX7_takesE_347 : decode cX7_takesE 347 = .ok (.invokevirtual 249, 3) := by decide +kernel
theorem dX7_takesE_350 : decode cX7_takesE 350 = .ok (.iload_n 1, 1) := by decide +kernel
theorem dX7_takesE_351 : decode cX7_takesE 351 = .ok (.ifCond .ne 7, 3) := by decide +kernel
theorem dX7_takesE_354 : decode cX7_takesE 354 = .ok (.iconst 1, 1) := by decide +kernel
theorem dX7_takesE_355 : decode cX7_takesE 355 = .ok (.goto 4, 3) := by decide +kernel
theorem dX7_takesE_358 : decode cX7_takesE 358 = .ok (.iconst 0, 1) := by decide +kernel
theorem dX7_takesE_359 : decode cX7_takesE 359 = .ok (.ireturn, 1) := by decide +kernel
theorem dX7_notsOpen_0 : decode cX7_notsOpen 0 = .ok (.iconst 0, 1) := by decide +kernel
theorem dX7_notsOpen_1 : decode cX7_notsOpen 1 = .ok (.istore_n 1, 1) := by decide +kernel
theorem dX7_notsOpen_2 : decode cX7_notsOpen 2 = .ok (.iconst 0, 1) := by decide +kernel
theorem dX7_notsOpen_3 : decode cX7_notsOpen 3 = .ok (.istore_n 2, 1) := by decide +kernel
theorem dX7_notsOpen_4 : decode cX7_notsOpen 4 = .ok (.iload_n 2, 1) := by decide +kernel
theorem dX7_notsOpen_5 : decode cX7_notsOpen 5 = .ok (.aload_n 0, 1) := by decide +kernel
theorem dX7_notsOpen_6 : decode cX7_notsOpen 6 = .ok (.getfield 234, 3) := by decide +kernel
theorem dX7_notsOpen_9 : decode cX7_notsOpen 9 = .ok (.if_icmp .ge 28, 3) := by decide +kernel
theorem dX7_notsOpen_12 : decode cX7_notsOpen 12 = .ok (.iload_n 1, 1) := by decide +kernel
theorem dX7_notsOpen_13 : decode cX7_notsOpen 13 = .ok (.aload_n 0, 1) := by decide +kernel
theorem dX7_notsOpen_14 : decode cX7_notsOpen 14 = .ok (.getfield 35, 3) := by decide +kernel
theorem dX7_notsOpen_17 : decode cX7_notsOpen 17 = .ok (.iload_n 2, 1) := by decide +kernel
