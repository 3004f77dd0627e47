theorem dX2_topLevel_25 : decode cX2_topLevel 25 = .ok (.ireturn, 1) := by decide +kernel
theorem dX2_levelOf_0 : decode cX2_levelOf 0 = .ok (.iload_n 0, 1) := by decide +kernel
theorem dX2_levelOf_1 : decode cX2_levelOf 1 = .ok (.lookupswitch 93 #[(38, 85), (42, 91), (43, 89), (45, 89), (47, 91), (60, 87), (61, 87), (62, 87), (124, 83)], 83) := by decide +kernel
theorem dX2_levelOf_84 : decode cX2_levelOf 84 = .ok (.iconst 1, 1) := by decide +kernel
theorem dX2_levelOf_85 : decode cX2_levelOf 85 = .ok (.ireturn, 1) := by decide +kernel
theorem dX2_levelOf_86 : decode cX2_levelOf 86 = .ok (.iconst 2, 1) := by decide +kernel
theorem dX2_levelOf_87 : decode cX2_levelOf 87 = .ok (.ireturn, 1) := by decide +kernel
theorem dX2_levelOf_88 : decode cX2_levelOf 88 = .ok (.iconst 3, 1) := by decide +kernel
theorem dX2_levelOf_89 : decode cX2_levelOf 89 = .ok (.ireturn, 1) := by decide +kernel
theorem dX2_levelOf_90 : decode cX2_levelOf 90 = .ok (.iconst 4, 1) := by decide +kernel
theorem dX2_levelOf_91 : decode cX2_levelOf 91 = .ok (.ireturn, 1) := by decide +kernel
theorem dX2_levelOf_92 : decode cX2_levelOf 92 = .ok (.iconst 5, 1) := by decide +kernel
theorem dX2_levelOf_93 : decode cX2_levelOf 93 = .ok (.ireturn, 1) := by decide +kernel
theorem dX2_levelOf_94 : decode cX2_levelOf 94 = .ok (.iconst 0, 1) := by decide +kernel
theorem dX2_levelOf_95 : decode cX2_levelOf 95 = .ok (.ireturn, 1) := by decide +kernel
theorem dX3_init_0 : decode cX3_init 0 = .ok (.aload_n 0, 1) := by decide +kernel
theorem dX3_init_1 : decode cX3_init 1 = .ok (.invokespecial 3, 3) := by decide +kernel
theorem dX3_init_4 : decode cX3_init 4 = .ok (.aload_n 0, 1) := by decide +kernel
theorem dX3_init_5 : decode cX3_init 5 = .ok (.iconst (-1), 1) := by decide +kernel
theorem dX3_init_6 : decode cX3_init 6 = .ok (.putfield 9, 3) := by decide +kernel
theorem dX3_init_9 : decode cX3_init 9 = .ok (.aload_n 0, 1) := by decide +kernel
theorem dX3_init_10 : decode cX3_init 10 = .ok (.bipush 24, 2) := by decide +kernel
theorem dX3_init_12 : decode cX3_init 12 = .ok (.newarray .int, 2) := by decide +kernel
theorem dX3_init_14 : decode cX3_init 14 = .ok (.putfield 15, 3) := by decide +kernel
theorem dX3_init_17 : decode cX3_init 17 = .ok (.return_, 1) := by decide +kernel
theorem dX3_begin_0 : decode cX3_begin 0 = .ok (.aload_n 0, 1) := by decide +kernel
theorem dX3_begin_1 : decode cX3_begin 1 = .ok (.iload_n 1, 1) := by decide +kernel
theorem dX3_begin_2 : decode cX3_begin 2 = .ok (.putfield 9, 3) := by decide +kernel
theorem dX3_begin_5 : decode cX3_begin 5 = .ok (.aload_n 0, 1) := by decide +kernel
theorem dX3_begin_6 : decode cX3_begin 6 = .ok (.iload_n 2, 1) := by decide +kernel
theorem dX3_begin_7 : decode cX3_begin 7 = .ok (.putfield 19, 3) := by decide +kernel
theorem dX3_begin_10 : decode cX3_begin 10 = .ok (.iconst 0, 1) := by decide +kernel
theorem dX3_begin_11 : decode cX3_begin 11 = .ok (.istore_n 3, 1) := by decide +kernel
theorem dX3_begin_12 : decode cX3_begin 12 = .ok (.iload_n 3, 1) := by decide +kernel
theorem dX3_begin_13 : decode cX3_begin 13 = .ok (.bipush 24, 2) := by decide +kernel
theorem dX3_begin_15 : decode cX3_begin 15 = .ok (.if_icmp .ge 16, 3) := by decide +kernel
theorem dX3_begin_18 : decode cX3_begin 18 = .ok (.aload_n 0, 1) := by decide +kernel
theorem dX3_begin_19 : decode cX3_begin 19 = .ok (.getfield 15, 3) := by decide +kernel
theorem dX3_begin_22 : decode cX3_begin 22 = .ok (.iload_n 3, 1) := by decide +kernel
theorem dX3_begin_23 : decode cX3_begin 23 = .ok (.iconst 0, 1) := by decide +kernel
theorem dX3_begin_24 : decode cX3_begin 24 = .ok (.iastore, 1) := by decide +kernel
theorem dX3_begin_25 : decode cX3_begin 25 = .ok (.iinc 3 1, 3) := by decide +kernel
theorem dX3_begin_28 : decode cX3_begin 28 = .ok (.goto (-16), 3) := by decide +kernel
theorem dX3_begin_31 : decode cX3_begin 31 = .ok (.return_, 1) := by decide +kernel
theorem dX3_takeOver_0 : decode cX3_takeOver 0 = .ok (.aload_n 0, 1) := by decide +kernel
theorem dX3_takeOver_1 : decode cX3_takeOver 1 = .ok (.aload_n 1, 1) := by decide +kernel
theorem dX3_takeOver_2 : decode cX3_takeOver 2 = .ok (.getfield 9, 3) := by decide +kernel
theorem dX3_takeOver_5 : decode cX3_takeOver 5 = .ok (.putfield 9, 3) := by decide +kernel
theorem dX3_takeOver_8 : decode cX3_takeOver 8 = .ok (.aload_n 0, 1) := by decide +kernel
theorem dX3_takeOver_9 : decode cX3_takeOver 9 = .ok (.aload_n 1, 1) := by decide +kernel
theorem dX3_takeOver_10 : decode cX3_takeOver 10 = .ok (.getfield 19, 3) := by decide +kernel
theorem dX3_takeOver_13 : decode cX3_takeOver 13 = .ok (.putfield 19, 3) := by decide +kernel
theorem dX3_takeOver_16 : decode cX3_takeOver 16 = .ok (.aload_n 1, 1) := by decide +kernel
theorem dX3_takeOver_17 : decode cX3_takeOver 17 = .ok (.getfield 15, 3) := by decide +kernel
theorem dX3_takeOver_20 : decode cX3_takeOver 20 = .ok (.iconst 0, 1) := by decide +kernel
theorem dX3_takeOver_21 : decode cX3_takeOver 21 = .ok (.aload_n 0, 1) := by decide +kernel
theorem dX3_takeOver_22 : decode cX3_takeOver 22 = .ok (.getfield 15, 3) := by decide +kernel
theorem dX3_takeOver_25 : decode cX3_takeOver 25 = .ok (.iconst 0, 1) := by decide +kernel
theorem dX3_takeOver_26 : decode cX3_takeOver 26 = .ok (.bipush 24, 2) := by decide +kernel
theorem dX3_takeOver_28 : decode cX3_takeOver 28 = .ok (.invokestatic 22, 3) := by decide +kernel
theorem dX3_takeOver_31 : decode cX3_takeOver 31 = .ok (.return_, 1) := by decide +kernel
theorem dX3_hasNumber_0 : decode cX3_hasNumber 0 = .ok (.aload_n 0, 1) := by decide +kernel
theorem dX3_hasNumber_1 : decode cX3_hasNumber 1 = .ok (.getfield 15, 3) := by decide +kernel
theorem dX3_hasNumber_4 : decode cX3_hasNumber 4 = .ok (.iload_n 1, 1) := by decide +kernel
theorem dX3_hasNumber_5 : decode cX3_hasNumber 5 = .ok (.iaload, 1) := by decide +kernel
theorem dX3_hasNumber_6 : decode cX3_hasNumber 6 = .ok (.ldc 28, 2) := by decide +kernel
theorem dX3_hasNumber_8 : decode cX3_hasNumber 8 = .ok (.if_icmp .eq 7, 3) := by decide +kernel
theorem dX3_hasNumber_11 : decode cX3_hasNumber 11 = .ok (.iconst 1, 1) := by decide +kernel
theorem dX3_hasNumber_12 : decode cX3_hasNumber 12 = .ok (.goto 4, 3) := by decide +kernel
theorem dX3_hasNumber_15 : decode cX3_hasNumber 15 = .ok (.iconst 0, 1) := by decide +kernel
theorem dX3_hasNumber_16 : decode cX3_hasNumber 16 = .ok (.ireturn, 1) := by decide +kernel
theorem dX3_lacks_0 : decode cX3_lacks 0 = .ok (.iload_n 2, 1) := by decide +kernel
theorem dX3_lacks_1 : decode cX3_lacks 1 = .ok (.ifCond .lt 25, 3) := by decide +kernel
theorem dX3_lacks_4 : decode cX3_lacks 4 = .ok (.iload_n 1, 1) := by decide +kernel
theorem dX3_lacks_5 : decode cX3_lacks 5 = .ok (.ifCond .lt 21, 3) := by decide +kernel
theorem dX3_lacks_8 : decode cX3_lacks 8 = .ok (.iload_n 1, 1) := by decide +kernel
theorem dX3_lacks_9 : decode cX3_lacks 9 = .ok (.aload_n 0, 1) := by decide +kernel
theorem dX3_lacks_10 : decode cX3_lacks 10 = .ok (.getfield 19, 3) := by decide +kernel
theorem dX3_lacks_13 : decode cX3_lacks 13 = .ok (.if_icmp .gt 13, 3) := by decide +kernel
theorem dX3_lacks_16 : decode cX3_lacks 16 = .ok (.iload_n 2, 1) := by decide +kernel
theorem dX3_lacks_17 : decode cX3_lacks 17 = .ok (.aload_n 0, 1) := by decide +kernel
theorem dX3_lacks_18 : decode cX3_lacks 18 = .ok (.getfield 19, 3) := by decide +kernel
theorem dX3_lacks_21 : decode cX3_lacks 21 = .ok (.iload_n 1, 1) := by decide +kernel
theorem dX3_lacks_22 : decode cX3_lacks 22 = .ok (.isub, 1) := by decide +kernel
theorem dX3_lacks_23 : decode cX3_lacks 23 = .ok (.if_icmp .le 7, 3) := by decide +kernel
theorem dX3_lacks_26 : decode cX3_lacks 26 = .ok (.iconst 1, 1) := by decide +kernel
theorem dX3_lacks_27 : decode cX3_lacks 27 = .ok (.goto 4, 3) := by decide +kernel
theorem dX3_lacks_30 : decode cX3_lacks 30 = .ok (.iconst 0, 1) := by decide +kernel
theorem dX3_lacks_31 : decode cX3_lacks 31 = .ok (.ireturn, 1) := by decide +kernel
theorem dX4_init_0 : decode cX4_init 0 = .ok (.aload_n 0, 1) := by decide +kernel
theorem dX4_init_1 : decode cX4_init 1 = .ok (.invokespecial 3, 3) := by decide +kernel
theorem dX4_init_4 : decode cX4_init 4 = .ok (.aload_n 0, 1) := by decide +kernel
theorem dX4_init_5 : decode cX4_init 5 = .ok (.iconst 0, 1) := by decide +kernel
theorem dX4_init_6 : decode cX4_init 6 = .ok (.putfield 9, 3) := by decide +kernel
theorem dX4_init_9 : decode cX4_init 9 = .ok (.aload_n 0, 1) := by decide +kernel
theorem dX4_init_10 : decode cX4_init 10 = .ok (.new 15, 3) := by decide +kernel
theorem dX4_init_13 : decode cX4_init 13 = .ok (.dup, 1) := by decide +kernel
theorem dX4_init_14 : decode cX4_init 14 = .ok (.invokespecial 17, 3) := by decide +kernel
theorem dX4_init_17 : decode cX4_init 17 = .ok (.putfield 18, 3) := by decide +kernel
theorem dX4_init_20 : decode cX4_init 20 = .ok (.return_, 1) := by decide +kernel
theorem dX5_init_0 : decode cX5_init 0 = .ok (.aload_n 0, 1) := by decide +kernel
theorem dX5_init_1 : decode cX5_init 1 = .ok (.invokespecial 3, 3) := by decide +kernel
theorem dX5_init_4 : decode cX5_init 4 = .ok (.aload_n 0, 1) := by decide +kernel
theorem dX5_init_5 : decode cX5_init 5 = .ok (.bipush 96, 2) := by decide +kernel
theorem dX5_init_7 : decode cX5_init 7 = .ok (.newarray .int, 2) := by decide +kernel
theorem dX5_init_9 : decode cX5_init 9 = .ok (.putfield 9, 3) := by decide +kernel
theorem dX5_init_12 : decode cX5_init 12 = .ok (.return_, 1) := by decide +kernel
theorem dX5_begin_0 : decode cX5_begin 0 = .ok (.aload_n 0, 1) := by decide +kernel
theorem dX5_begin_1 : decode cX5_begin 1 = .ok (.iload_n 1, 1) := by decide +kernel
theorem dX5_begin_2 : decode cX5_begin 2 = .ok (.putfield 15, 3) := by decide +kernel
theorem dX5_begin_5 : decode cX5_begin 5 = .ok (.aload_n 0, 1) := by decide +kernel
theorem dX5_begin_6 : decode cX5_begin 6 = .ok (.iconst 0, 1) := by decide +kernel
theorem dX5_begin_7 : decode cX5_begin 7 = .ok (.putfield 19, 3) := by decide +kernel
theorem dX5_begin_10 : decode cX5_begin 10 = .ok (.aload_n 0, 1) := by decide +kernel
theorem dX5_begin_11 : decode cX5_begin 11 = .ok (.iconst 0, 1) := by decide +kernel
theorem dX5_begin_12 : decode cX5_begin 12 = .ok (.putfield 22, 3) := by decide +kernel
theorem dX5_begin_15 : decode cX5_begin 15 = .ok (.return_, 1) := by decide +kernel
theorem dX5_takeOver_0 : decode cX5_takeOver 0 = .ok (.aload_n 0, 1) := by decide +kernel
theorem dX5_takeOver_1 : decode cX5_takeOver 1 = .ok (.aload_n 1, 1) := by decide +kernel
theorem dX5_takeOver_2 : decode cX5_takeOver 2 = .ok (.getfield 15, 3) := by decide +kernel
theorem dX5_takeOver_5 : decode cX5_takeOver 5 = .ok (.putfield 15, 3) := by decide +kernel
theorem dX5_takeOver_8 : decode cX5_takeOver 8 = .ok (.aload_n 0, 1) := by decide +kernel
theorem dX5_takeOver_9 : decode cX5_takeOver 9 = .ok (.aload_n 1, 1) := by decide +kernel
theorem dX5_takeOver_10 : decode cX5_takeOver 10 = .ok (.getfield 19, 3) := by decide +kernel
theorem dX5_takeOver_13 : decode cX5_takeOver 13 = .ok (.putfield 19, 3) := by decide +kernel
theorem dX5_takeOver_16 : decode cX5_takeOver 16 = .ok (.aload_n 0, 1) := by decide +kernel
theorem dX5_takeOver_17 : decode cX5_takeOver 17 = .ok (.aload_n 1, 1) := by decide +kernel
theorem dX5_takeOver_18 : decode cX5_takeOver 18 = .ok (.getfield 22, 3) := by decide +kernel
theorem dX5_takeOver_21 : decode cX5_takeOver 21 = .ok (.putfield 22, 3) := by decide +kernel
theorem dX5_takeOver_24 : decode cX5_takeOver 24 = .ok (.aload_n 1, 1) := by decide +kernel
theorem dX5_takeOver_25 : decode cX5_takeOver 25 = .ok (.getfield 9, 3) := by decide +kernel
theorem dX5_takeOver_28 : decode cX5_takeOver 28 = .ok (.iconst 0, 1) := by decide +kernel
theorem dX5_takeOver_29 : decode cX5_takeOver 29 = .ok (.aload_n 0, 1) := by decide +kernel
theorem dX5_takeOver_30 : decode cX5_takeOver 30 = .ok (.getfield 9, 3) := by decide +kernel
theorem dX5_takeOver_33 : decode cX5_takeOver 33 = .ok (.iconst 0, 1) := by decide +kernel
theorem dX5_takeOver_34 : decode cX5_takeOver 34 = .ok (.bipush 96, 2) := by decide +kernel
theorem dX5_takeOver_36 : decode cX5_takeOver 36 = .ok (.invokestatic 25, 3) := by decide +kernel
theorem dX5_takeOver_39 : decode cX5_takeOver 39 = .ok (.return_, 1) := by decide +kernel
theorem dX5_add_0 : decode cX5_add 0 = .ok (.aload_n 0, 1) := by decide +kernel
theorem dX5_add_1 : decode cX5_add 1 = .ok (.getfield 22, 3) := by decide +kernel
theorem dX5_add_4 : decode cX5_add 4 = .ok (.bipush 96, 2) := by decide +kernel
theorem dX5_add_6 : decode cX5_add 6 = .ok (.if_icmp .ge 23, 3) := by decide +kernel
theorem dX5_add_9 : decode cX5_add 9 = .ok (.aload_n 0, 1) := by decide +kernel
theorem dX5_add_10 : decode cX5_add 10 = .ok (.getfield 9, 3) := by decide +kernel
theorem dX5_add_13 : decode cX5_add 13 = .ok (.aload_n 0, 1) := by decide +kernel
theorem dX5_add_14 : decode cX5_add 14 = .ok (.getfield 22, 3) := by decide +kernel
theorem dX5_add_17 : decode cX5_add 17 = .ok (.iload_n 1, 1) := by decide +kernel
theorem dX5_add_18 : decode cX5_add 18 = .ok (.iastore, 1) := by decide +kernel
theorem dX5_add_19 : decode cX5_add 19 = .ok (.aload_n 0, 1) := by decide +kernel
theorem dX5_add_20 : decode cX5_add 20 = .ok (.dup, 1) := by decide +kernel
theorem dX5_add_21 : decode cX5_add 21 = .ok (.getfield 22, 3) := by decide +kernel
theorem dX5_add_24 : decode cX5_add 24 = .ok (.iconst 1, 1) := by decide +kernel
theorem dX5_add_25 : decode cX5_add 25 = .ok (.iadd, 1) := by decide +kernel
theorem dX5_add_26 : decode cX5_add 26 = .ok (.putfield 22, 3) := by decide +kernel
theorem dX5_add_29 : decode cX5_add 29 = .ok (.return_, 1) := by decide +kernel
theorem dX5_addLeaf_0 : decode cX5_addLeaf 0 = .ok (.aload_n 0, 1) := by decide +kernel
theorem dX5_addLeaf_1 : decode cX5_addLeaf 1 = .ok (.iload_n 1, 1) := by decide +kernel
theorem dX5_addLeaf_2 : decode cX5_addLeaf 2 = .ok (.invokevirtual 31, 3) := by decide +kernel
theorem dX5_addLeaf_5 : decode cX5_addLeaf 5 = .ok (.aload_n 0, 1) := by decide +kernel
theorem dX5_addLeaf_6 : decode cX5_addLeaf 6 = .ok (.dup, 1) := by decide +kernel
theorem dX5_addLeaf_7 : decode cX5_addLeaf 7 = .ok (.getfield 19, 3) := by decide +kernel
theorem dX5_addLeaf_10 : decode cX5_addLeaf 10 = .ok (.iconst 1, 1) := by decide +kernel
theorem dX5_addLeaf_11 : decode cX5_addLeaf 11 = .ok (.iadd, 1) := by decide +kernel
theorem dX5_addLeaf_12 : decode cX5_addLeaf 12 = .ok (.putfield 19, 3) := by decide +kernel
theorem dX5_addLeaf_15 : decode cX5_addLeaf 15 = .ok (.return_, 1) := by decide +kernel
theorem dX6_init_0 : decode cX6_init 0 = .ok (.aload_n 0, 1) := by decide +kernel
theorem dX6_init_1 : decode cX6_init 1 = .ok (.invokespecial 1, 3) := by decide +kernel
theorem dX6_init_4 : decode cX6_init 4 = .ok (.aload_n 0, 1) := by decide +kernel
theorem dX6_init_5 : decode cX6_init 5 = .ok (.new 7, 3) := by decide +kernel
theorem dX6_init_8 : decode cX6_init 8 = .ok (.dup, 1) := by decide +kernel
theorem dX6_init_9 : decode cX6_init 9 = .ok (.invokespecial 9, 3) := by decide +kernel
theorem dX6_init_12 : decode cX6_init 12 = .ok (.putfield 10, 3) := by decide +kernel
theorem dX6_init_15 : decode cX6_init 15 = .ok (.aload_n 0, 1) := by decide +kernel
theorem dX6_init_16 : decode cX6_init 16 = .ok (.new 16, 3) := by decide +kernel
theorem dX6_init_19 : decode cX6_init 19 = .ok (.dup, 1) := by decide +kernel
theorem dX6_init_20 : decode cX6_init 20 = .ok (.invokespecial 18, 3) := by decide +kernel
theorem dX6_init_23 : decode cX6_init 23 = .ok (.putfield 19, 3) := by decide +kernel
theorem dX6_init_26 : decode cX6_init 26 = .ok (.aload_n 0, 1) := by decide +kernel
theorem dX6_init_27 : decode cX6_init 27 = .ok (.new 23, 3) := by decide +kernel
theorem dX6_init_30 : decode cX6_init 30 = .ok (.dup, 1) := by decide +kernel
theorem dX6_init_31 : decode cX6_init 31 = .ok (.aload_n 0, 1) := by decide +kernel
theorem dX6_init_32 : decode cX6_init 32 = .ok (.getfield 10, 3) := by decide +kernel
theorem dX6_init_35 : decode cX6_init 35 = .ok (.invokespecial 25, 3) := by decide +kernel
theorem dX6_init_38 : decode cX6_init 38 = .ok (.putfield 28, 3) := by decide +kernel
theorem dX6_init_41 : decode cX6_init 41 = .ok (.aload_n 0, 1) := by decide +kernel
theorem dX6_init_42 : decode cX6_init 42 = .ok (.new 23, 3) := by decide +kernel
theorem dX6_init_45 : decode cX6_init 45 = .ok (.dup, 1) := by decide +kernel
theorem dX6_init_46 : decode cX6_init 46 = .ok (.aload_n 0, 1) := by decide +kernel
theorem dX6_init_47 : decode cX6_init 47 = .ok (.getfield 10, 3) := by decide +kernel
theorem dX6_init_50 : decode cX6_init 50 = .ok (.invokespecial 25, 3) := by decide +kernel
theorem dX6_init_53 : decode cX6_init 53 = .ok (.putfield 32, 3) := by decide +kernel
theorem dX6_init_56 : decode cX6_init 56 = .ok (.aload_n 0, 1) := by decide +kernel
theorem dX6_init_57 : decode cX6_init 57 = .ok (.new 23, 3) := by decide +kernel
theorem dX6_init_60 : decode cX6_init 60 = .ok (.dup, 1) := by decide +kernel
theorem dX6_init_61 : decode cX6_init 61 = .ok (.aload_n 0, 1) := by decide +kernel
theorem dX6_init_62 : decode cX6_init 62 = .ok (.getfield 10, 3) := by decide +kernel
theorem dX6_init_65 : decode cX6_init 65 = .ok (.invokespecial 25, 3) := by decide +kernel
theorem dX6_init_68 : decode cX6_init 68 = .ok (.putfield 35, 3) := by decide +kernel
theorem dX6_init_71 : decode cX6_init 71 = .ok (.aload_n 0, 1) := by decide +kernel
theorem dX6_init_72 : decode cX6_init 72 = .ok (.iconst 4, 1) := by decide +kernel
theorem dX6_init_73 : decode cX6_init 73 = .ok (.anewarray 38, 3) := by decide +kernel
theorem dX6_init_76 : decode cX6_init 76 = .ok (.putfield 40, 3) := by decide +kernel
theorem dX6_init_79 : decode cX6_init 79 = .ok (.iconst 0, 1) := by decide +kernel
theorem dX6_init_80 : decode cX6_init 80 = .ok (.istore_n 1, 1) := by decide +kernel
theorem dX6_init_81 : decode cX6_init 81 = .ok (.iload_n 1, 1) := by decide +kernel
theorem dX6_init_82 : decode cX6_init 82 = .ok (.iconst 4, 1) := by decide +kernel
theorem dX6_init_83 : decode cX6_init 83 = .ok (.if_icmp .ge 22, 3) := by decide +kernel
theorem dX6_init_86 : decode cX6_init 86 = .ok (.aload_n 0, 1) := by decide +kernel
theorem dX6_init_87 : decode cX6_init 87 = .ok (.getfield 40, 3) := by decide +kernel
theorem dX6_init_90 : decode cX6_init 90 = .ok (.iload_n 1, 1) := by decide +kernel
theorem dX6_init_91 : decode cX6_init 91 = .ok (.new 38, 3) := by decide +kernel
theorem dX6_init_94 : decode cX6_init 94 = .ok (.dup, 1) := by decide +kernel
theorem dX6_init_95 : decode cX6_init 95 = .ok (.invokespecial 44, 3) := by decide +kernel
theorem dX6_init_98 : decode cX6_init 98 = .ok (.aastore, 1) := by decide +kernel
theorem dX6_init_99 : decode cX6_init 99 = .ok (.iinc 1 1, 3) := by decide +kernel
theorem dX6_init_102 : decode cX6_init 102 = .ok (.goto (-21), 3) := by decide +kernel
theorem dX6_init_105 : decode cX6_init 105 = .ok (.aload_n 0, 1) := by decide +kernel
theorem dX6_init_106 : decode cX6_init 106 = .ok (.iconst 5, 1) := by decide +kernel
theorem dX6_init_107 : decode cX6_init 107 = .ok (.anewarray 45, 3) := by decide +kernel
theorem dX6_init_110 : decode cX6_init 110 = .ok (.putfield 47, 3) := by decide +kernel
theorem dX6_init_113 : decode cX6_init 113 = .ok (.iconst 0, 1) := by decide +kernel
theorem dX6_init_114 : decode cX6_init 114 = .ok (.istore_n 1, 1) := by decide +kernel
theorem dX6_init_115 : decode cX6_init 115 = .ok (.iload_n 1, 1) := by decide +kernel
theorem dX6_init_116 : decode cX6_init 116 = .ok (.iconst 5, 1) := by decide +kernel
theorem dX6_init_117 : decode cX6_init 117 = .ok (.if_icmp .ge 22, 3) := by decide +kernel
theorem dX6_init_120 : decode cX6_init 120 = .ok (.aload_n 0, 1) := by decide +kernel
theorem dX6_init_121 : decode cX6_init 121 = .ok (.getfield 47, 3) := by decide +kernel
theorem dX6_init_124 : decode cX6_init 124 = .ok (.iload_n 1, 1) := by decide +kernel
theorem dX6_init_125 : decode cX6_init 125 = .ok (.new 45, 3) := by decide +kernel
theorem dX6_init_128 : decode cX6_init 128 = .ok (.dup, 1) := by decide +kernel
theorem dX6_init_129 : decode cX6_init 129 = .ok (.invokespecial 51, 3) := by decide +kernel
theorem dX6_init_132 : decode cX6_init 132 = .ok (.aastore, 1) := by decide +kernel
theorem dX6_init_133 : decode cX6_init 133 = .ok (.iinc 1 1, 3) := by decide +kernel
theorem dX6_init_136 : decode cX6_init 136 = .ok (.goto (-21), 3) := by decide +kernel
theorem dX6_init_139 : decode cX6_init 139 = .ok (.aload_n 0, 1) := by decide +kernel
theorem dX6_init_140 : decode cX6_init 140 = .ok (.bipush 60, 2) := by decide +kernel
theorem dX6_init_142 : decode cX6_init 142 = .ok (.newarray .int, 2) := by decide +kernel
theorem dX6_init_144 : decode cX6_init 144 = .ok (.putfield 52, 3) := by decide +kernel
theorem dX6_init_147 : decode cX6_init 147 = .ok (.aload_n 0, 1) := by decide +kernel
theorem dX6_init_148 : decode cX6_init 148 = .ok (.bipush 6, 2) := by decide +kernel
theorem dX6_init_150 : decode cX6_init 150 = .ok (.newarray .int, 2) := by decide +kernel
theorem dX6_init_152 : decode cX6_init 152 = .ok (.putfield 56, 3) := by decide +kernel
theorem dX6_init_155 : decode cX6_init 155 = .ok (.return_, 1) := by decide +kernel
theorem dX6_person_0 : decode cX6_person 0 = .ok (.iload_n 1, 1) := by decide +kernel
theorem dX6_person_1 : decode cX6_person 1 = .ok (.invokestatic 59, 3) := by decide +kernel
theorem dX6_person_4 : decode cX6_person 4 = .ok (.ifCond .ne 23, 3) := by decide +kernel
theorem dX6_person_7 : decode cX6_person 7 = .ok (.iload_n 2, 1) := by decide +kernel
theorem dX6_person_8 : decode cX6_person 8 = .ok (.iconst 0, 1) := by decide +kernel
theorem dX6_person_9 : decode cX6_person 9 = .ok (.bipush 7, 2) := by decide +kernel
theorem dX6_person_11 : decode cX6_person 11 = .ok (.invokestatic 63, 3) := by decide +kernel
theorem dX6_person_14 : decode cX6_person 14 = .ok (.ifCond .ne 13, 3) := by decide +kernel
theorem dX6_person_17 : decode cX6_person 17 = .ok (.iload_n 3, 1) := by decide +kernel
theorem dX6_person_18 : decode cX6_person 18 = .ok (.iconst 0, 1) := by decide +kernel
theorem dX6_person_19 : decode cX6_person 19 = .ok (.bipush 9, 2) := by decide +kernel
theorem dX6_person_21 : decode cX6_person 21 = .ok (.invokestatic 63, 3) := by decide +kernel
theorem dX6_person_24 : decode cX6_person 24 = .ok (.ifCond .eq 6, 3) := by decide +kernel
theorem dX6_person_27 : decode cX6_person 27 = .ok (.ldc 67, 2) := by decide +kernel
theorem dX6_person_29 : decode cX6_person 29 = .ok (.ireturn, 1) := by decide +kernel
theorem dX6_person_30 : decode cX6_person 30 = .ok (.aload_n 0, 1) := by decide +kernel
theorem dX6_person_31 : decode cX6_person 31 = .ok (.getfield 28, 3) := by decide +kernel
theorem dX6_person_34 : decode cX6_person 34 = .ok (.getfield 68, 3) := by decide +kernel
theorem dX6_person_37 : decode cX6_person 37 = .ok (.bipush 8, 2) := by decide +kernel
theorem dX6_person_39 : decode cX6_person 39 = .ok (.if_icmp .lt 6, 3) := by decide +kernel
theorem dX6_person_42 : decode cX6_person 42 = .ok (.ldc 72, 2) := by decide +kernel
theorem dX6_person_44 : decode cX6_person 44 = .ok (.ireturn, 1) := by decide +kernel
theorem dX6_person_45 : decode cX6_person 45 = .ok (.aload_n 0, 1) := by decide +kernel
theorem dX6_person_46 : decode cX6_person 46 = .ok (.getfield 28, 3) := by decide +kernel
theorem dX6_person_49 : decode cX6_person 49 = .ok (.iload_n 1, 1) := by decide +kernel
theorem dX6_person_50 : decode cX6_person 50 = .ok (.iload_n 2, 1) := by decide +kernel
theorem dX6_person_51 : decode cX6_person 51 = .ok (.iload_n 3, 1) := by decide +kernel
theorem dX6_person_52 : decode cX6_person 52 = .ok (.invokevirtual 73, 3) := by decide +kernel
theorem dX6_person_55 : decode cX6_person 55 = .ok (.aload_n 0, 1) := by decide +kernel
theorem dX6_person_56 : decode cX6_person 56 = .ok (.getfield 28, 3) := by decide +kernel
theorem dX6_person_59 : decode cX6_person 59 = .ok (.getfield 68, 3) := by decide +kernel
theorem dX6_person_62 : decode cX6_person 62 = .ok (.iconst 1, 1) := by decide +kernel
theorem dX6_person_63 : decode cX6_person 63 = .ok (.isub, 1) := by decide +kernel
theorem dX6_person_64 : decode cX6_person 64 = .ok (.ireturn, 1) := by decide +kernel
theorem dX6_told_0 : decode cX6_told 0 = .ok (.aload_n 0, 1) := by decide +kernel
theorem dX6_told_1 : decode cX6_told 1 = .ok (.iload_n 1, 1) := by decide +kernel
theorem dX6_told_2 : decode cX6_told 2 = .ok (.invokevirtual 77, 3) := by decide +kernel
theorem dX6_told_5 : decode cX6_told 5 = .ok (.ifCond .eq 6, 3) := by decide +kernel
theorem dX6_told_8 : decode cX6_told 8 = .ok (.ldc 67, 2) := by decide +kernel
theorem dX6_told_10 : decode cX6_told 10 = .ok (.ireturn, 1) := by decide +kernel
theorem dX6_told_11 : decode cX6_told 11 = .ok (.iload_n 2, 1) := by decide +kernel
theorem dX6_told_12 : decode cX6_told 12 = .ok (.tableswitch 116 0 6 #[44, 54, 64, 74, 84, 98, 107], 44) := by decide +kernel
theorem dX6_told_56 : decode cX6_told 56 = .ok (.aload_n 0, 1) := by decide +kernel
theorem dX6_told_57 : decode cX6_told 57 = .ok (.getfield 28, 3) := by decide +kernel
theorem dX6_told_60 : decode cX6_told 60 = .ok (.getfield 80, 3) := by decide +kernel
theorem dX6_told_63 : decode cX6_told 63 = .ok (.iload_n 1, 1) := by decide +kernel
theorem dX6_told_64 : decode cX6_told 64 = .ok (.iaload, 1) := by decide +kernel
theorem dX6_told_65 : decode cX6_told 65 = .ok (.ireturn, 1) := by decide +kernel
theorem dX6_told_66 : decode cX6_told 66 = .ok (.aload_n 0, 1) := by decide +kernel
theorem dX6_told_67 : decode cX6_told 67 = .ok (.getfield 28, 3) := by decide +kernel
theorem dX6_told_70 : decode cX6_told 70 = .ok (.getfield 83, 3) := by decide +kernel
theorem dX6_told_73 : decode cX6_told 73 = .ok (.iload_n 1, 1) := by decide +kernel
theorem dX6_told_74 : decode cX6_told 74 = .ok (.iaload, 1) := by decide +kernel
theorem dX6_told_75 : decode cX6_told 75 = .ok (.ireturn, 1) := by decide +kernel
theorem dX6_told_76 : decode cX6_told 76 = .ok (.aload_n 0, 1) := by decide +kernel
theorem dX6_told_77 : decode cX6_told 77 = .ok (.getfield 28, 3) := by decide +kernel
theorem dX6_told_80 : decode cX6_told 80 = .ok (.getfield 86, 3) := by decide +kernel
theorem dX6_told_83 : decode cX6_told 83 = .ok (.iload_n 1, 1) := by decide +kernel
theorem dX6_told_84 : decode cX6_told 84 = .ok (.iaload, 1) := by decide +kernel
theorem dX6_told_85 : decode cX6_told 85 = .ok (.ireturn, 1) := by decide +kernel
theorem dX6_told_86 : decode cX6_told 86 = .ok (.aload_n 0, 1) := by decide +kernel
theorem dX6_told_87 : decode cX6_told 87 = .ok (.getfield 28, 3) := by decide +kernel
theorem dX6_told_90 : decode cX6_told 90 = .ok (.getfield 89, 3) := by decide +kernel
theorem dX6_told_93 : decode cX6_told 93 = .ok (.iload_n 1, 1) := by decide +kernel
theorem dX6_told_94 : decode cX6_told 94 = .ok (.iaload, 1) := by decide +kernel
theorem dX6_told_95 : decode cX6_told 95 = .ok (.ireturn, 1) := by decide +kernel
theorem dX6_told_96 : decode cX6_told 96 = .ok (.getstatic 92, 3) := by decide +kernel
theorem dX6_told_99 : decode cX6_told 99 = .ok (.aload_n 0, 1) := by decide +kernel
theorem dX6_told_100 : decode cX6_told 100 = .ok (.getfield 28, 3) := by decide +kernel
theorem dX6_told_103 : decode cX6_told 103 = .ok (.getfield 80, 3) := by decide +kernel
theorem dX6_told_106 : decode cX6_told 106 = .ok (.iload_n 1, 1) := by decide +kernel
theorem dX6_told_107 : decode cX6_told 107 = .ok (.iaload, 1) := by decide +kernel
theorem dX6_told_108 : decode cX6_told 108 = .ok (.iaload, 1) := by decide +kernel
theorem dX6_told_109 : decode cX6_told 109 = .ok (.ireturn, 1) := by decide +kernel
theorem dX6_told_110 : decode cX6_told 110 = .ok (.aload_n 0, 1) := by decide +kernel
theorem dX6_told_111 : decode cX6_told 111 = .ok (.getfield 28, 3) := by decide +kernel
theorem dX6_told_114 : decode cX6_told 114 = .ok (.iload_n 1, 1) := by decide +kernel
theorem dX6_told_115 : decode cX6_told 115 = .ok (.invokevirtual 95, 3) := by decide +kernel
theorem dX6_told_118 : decode cX6_told 118 = .ok (.ireturn, 1) := by decide +kernel
theorem dX6_told_119 : decode cX6_told 119 = .ok (.aload_n 0, 1) := by decide +kernel
theorem dX6_told_120 : decode cX6_told 120 = .ok (.getfield 28, 3) := by decide +kernel
theorem dX6_told_123 : decode cX6_told 123 = .ok (.iload_n 1, 1) := by decide +kernel
theorem dX6_told_124 : decode cX6_told 124 = .ok (.invokevirtual 99, 3) := by decide +kernel
theorem dX6_told_127 : decode cX6_told 127 = .ok (.ireturn, 1) := by decide +kernel
theorem dX6_told_128 : decode cX6_told 128 = .ok (.ldc 67, 2) := by decide +kernel
theorem dX6_told_130 : decode cX6_told 130 = .ok (.ireturn, 1) := by decide +kernel
theorem dX6_as_0 : decode cX6_as 0 = .ok (.aload_n 0, 1) := by decide +kernel
theorem dX6_as_1 : decode cX6_as 1 = .ok (.iload_n 1, 1) := by decide +kernel
theorem dX6_as_2 : decode cX6_as 2 = .ok (.invokevirtual 77, 3) := by decide +kernel
theorem dX6_as_5 : decode cX6_as 5 = .ok (.ifCond .ne 10, 3) := by decide +kernel
theorem dX6_as_8 : decode cX6_as 8 = .ok (.iload_n 2, 1) := by decide +kernel
theorem dX6_as_9 : decode cX6_as 9 = .ok (.invokestatic 59, 3) := by decide +kernel
theorem dX6_as_12 : decode cX6_as 12 = .ok (.ifCond .eq 6, 3) := by decide +kernel
theorem dX6_as_15 : decode cX6_as 15 = .ok (.ldc 67, 2) := by decide +kernel
theorem dX6_as_17 : decode cX6_as 17 = .ok (.ireturn, 1) := by decide +kernel
theorem dX6_as_18 : decode cX6_as 18 = .ok (.aload_n 0, 1) := by decide +kernel
theorem dX6_as_19 : decode cX6_as 19 = .ok (.getfield 28, 3) := by decide +kernel
theorem dX6_as_22 : decode cX6_as 22 = .ok (.getfield 80, 3) := by decide +kernel
theorem dX6_as_25 : decode cX6_as 25 = .ok (.iload_n 1, 1) := by decide +kernel
theorem dX6_as_26 : decode cX6_as 26 = .ok (.iaload, 1) := by decide +kernel
theorem dX6_as_27 : decode cX6_as 27 = .ok (.iload_n 2, 1) := by decide +kernel
theorem dX6_as_28 : decode cX6_as 28 = .ok (.invokestatic 102, 3) := by decide +kernel
theorem dX6_as_31 : decode cX6_as 31 = .ok (.ifCond .eq 15, 3) := by decide +kernel
theorem dX6_as_34 : decode cX6_as 34 = .ok (.aload_n 0, 1) := by decide +kernel
theorem dX6_as_35 : decode cX6_as 35 = .ok (.getfield 28, 3) := by decide +kernel
theorem dX6_as_38 : decode cX6_as 38 = .ok (.getfield 89, 3) := by decide +kernel
theorem dX6_as_41 : decode cX6_as 41 = .ok (.iload_n 1, 1) := by decide +kernel
theorem dX6_as_42 : decode cX6_as 42 = .ok (.iaload, 1) := by decide +kernel
theorem dX6_as_43 : decode cX6_as 43 = .ok (.goto 5, 3) := by decide +kernel
theorem dX6_as_46 : decode cX6_as 46 = .ok (.ldc 106, 2) := by decide +kernel
theorem dX6_as_48 : decode cX6_as 48 = .ok (.ireturn, 1) := by decide +kernel
theorem dX6_turns_0 : decode cX6_turns 0 = .ok (.aload_n 0, 1) := by decide +kernel
theorem dX6_turns_1 : decode cX6_turns 1 = .ok (.iload_n 1, 1) := by decide +kernel
theorem dX6_turns_2 : decode cX6_turns 2 = .ok (.invokevirtual 77, 3) := by decide +kernel
theorem dX6_turns_5 : decode cX6_turns 5 = .ok (.ifCond .ne 10, 3) := by decide +kernel
theorem dX6_turns_8 : decode cX6_turns 8 = .ok (.iload_n 2, 1) := by decide +kernel
theorem dX6_turns_9 : decode cX6_turns 9 = .ok (.invokestatic 59, 3) := by decide +kernel
theorem dX6_turns_12 : decode cX6_turns 12 = .ok (.ifCond .eq 6, 3) := by decide +kernel
theorem dX6_turns_15 : decode cX6_turns 15 = .ok (.ldc 67, 2) := by decide +kernel
theorem dX6_turns_17 : decode cX6_turns 17 = .ok (.ireturn, 1) := by decide +kernel
theorem dX6_turns_18 : decode cX6_turns 18 = .ok (.aload_n 0, 1) := by decide +kernel
theorem dX6_turns_19 : decode cX6_turns 19 = .ok (.getfield 28, 3) := by decide +kernel
theorem dX6_turns_22 : decode cX6_turns 22 = .ok (.getfield 80, 3) := by decide +kernel
theorem dX6_turns_25 : decode cX6_turns 25 = .ok (.iload_n 1, 1) := by decide +kernel
theorem dX6_turns_26 : decode cX6_turns 26 = .ok (.iaload, 1) := by decide +kernel
theorem dX6_turns_27 : decode cX6_turns 27 = .ok (.istore_n 3, 1) := by decide +kernel
theorem dX6_turns_28 : decode cX6_turns 28 = .ok (.aload_n 0, 1) := by decide +kernel
theorem dX6_turns_29 : decode cX6_turns 29 = .ok (.getfield 28, 3) := by decide +kernel
theorem dX6_turns_32 : decode cX6_turns 32 = .ok (.getfield 80, 3) := by decide +kernel
theorem dX6_turns_35 : decode cX6_turns 35 = .ok (.iload_n 1, 1) := by decide +kernel
theorem dX6_turns_36 : decode cX6_turns 36 = .ok (.iload_n 2, 1) := by decide +kernel
theorem dX6_turns_37 : decode cX6_turns 37 = .ok (.iastore, 1) := by decide +kernel
theorem dX6_turns_38 : decode cX6_turns 38 = .ok (.iload_n 3, 1) := by decide +kernel
theorem dX6_turns_39 : decode cX6_turns 39 = .ok (.ireturn, 1) := by decide +kernel
theorem dX6_set_0 : decode cX6_set 0 = .ok (.aload_n 0, 1) := by decide +kernel
theorem dX6_set_1 : decode cX6_set 1 = .ok (.iload_n 1, 1) := by decide +kernel
theorem dX6_set_2 : decode cX6_set 2 = .ok (.invokevirtual 77, 3) := by decide +kernel
theorem dX6_set_5 : decode cX6_set 5 = .ok (.ifCond .eq 6, 3) := by decide +kernel
theorem dX6_set_8 : decode cX6_set 8 = .ok (.ldc 67, 2) := by decide +kernel
theorem dX6_set_10 : decode cX6_set 10 = .ok (.ireturn, 1) := by decide +kernel
theorem dX6_set_11 : decode cX6_set 11 = .ok (.iload_n 2, 1) := by decide +kernel
theorem dX6_set_12 : decode cX6_set 12 = .ok (.tableswitch 73 1 3 #[28, 43, 58], 28) := by decide +kernel
theorem dX6_set_40 : decode cX6_set 40 = .ok (.aload_n 0, 1) := by decide +kernel
theorem dX6_set_41 : decode cX6_set 41 = .ok (.getfield 28, 3) := by decide +kernel
theorem dX6_set_44 : decode cX6_set 44 = .ok (.getfield 83, 3) := by decide +kernel
theorem dX6_set_47 : decode cX6_set 47 = .ok (.iload_n 1, 1) := by decide +kernel
theorem dX6_set_48 : decode cX6_set 48 = .ok (.iload_n 3, 1) := by decide +kernel
theorem dX6_set_49 : decode cX6_set 49 = .ok (.bipush 7, 2) := by decide +kernel
theorem dX6_set_51 : decode cX6_set 51 = .ok (.invokestatic 107, 3) := by decide +kernel
theorem dX6_set_54 : decode cX6_set 54 = .ok (.ireturn, 1) := by decide +kernel
theorem dX6_set_55 : decode cX6_set 55 = .ok (.aload_n 0, 1) := by decide +kernel
theorem dX6_set_56 : decode cX6_set 56 = .ok (.getfield 28, 3) := by decide +kernel
theorem dX6_set_59 : decode cX6_set 59 = .ok (.getfield 86, 3) := by decide +kernel
theorem dX6_set_62 : decode cX6_set 62 = .ok (.iload_n 1, 1) := by decide +kernel
theorem dX6_set_63 : decode cX6_set 63 = .ok (.iload_n 3, 1) := by decide +kernel
theorem dX6_set_64 : decode cX6_set 64 = .ok (.bipush 9, 2) := by decide +kernel
theorem dX6_set_66 : decode cX6_set 66 = .ok (.invokestatic 107, 3) := by decide +kernel
theorem dX6_set_69 : decode cX6_set 69 = .ok (.ireturn, 1) := by decide +kernel
theorem dX6_set_70 : decode cX6_set 70 = .ok (.aload_n 0, 1) := by decide +kernel
theorem dX6_set_71 : decode cX6_set 71 = .ok (.getfield 28, 3) := by decide +kernel
theorem dX6_set_74 : decode cX6_set 74 = .ok (.getfield 89, 3) := by decide +kernel
theorem dX6_set_77 : decode cX6_set 77 = .ok (.iload_n 1, 1) := by decide +kernel
theorem dX6_set_78 : decode cX6_set 78 = .ok (.iload_n 3, 1) := by decide +kernel
theorem dX6_set_79 : decode cX6_set 79 = .ok (.bipush 99, 2) := by decide +kernel
theorem dX6_set_81 : decode cX6_set 81 = .ok (.invokestatic 107, 3) := by decide +kernel
theorem dX6_set_84 : decode cX6_set 84 = .ok (.ireturn, 1) := by decide +kernel
theorem dX6_set_85 : decode cX6_set 85 = .ok (.ldc 67, 2) := by decide +kernel
theorem dX6_set_87 : decode cX6_set 87 = .ok (.ireturn, 1) := by decide +kernel
theorem dX6_thought_0 : decode cX6_thought 0 = .ok (.aload_n 0, 1) := by decide +kernel
theorem dX6_thought_1 : decode cX6_thought 1 = .ok (.iload_n 1, 1) := by decide +kernel
theorem dX6_thought_2 : decode cX6_thought 2 = .ok (.invokevirtual 77, 3) := by decide +kernel
theorem dX6_thought_5 : decode cX6_thought 5 = .ok (.ifCond .ne 10, 3) := by decide +kernel
theorem dX6_thought_8 : decode cX6_thought 8 = .ok (.iload_n 2, 1) := by decide +kernel
theorem dX6_thought_9 : decode cX6_thought 9 = .ok (.invokestatic 111, 3) := by decide +kernel
theorem dX6_thought_12 : decode cX6_thought 12 = .ok (.ifCond .eq 6, 3) := by decide +kernel
theorem dX6_thought_15 : decode cX6_thought 15 = .ok (.ldc 67, 2) := by decide +kernel
theorem dX6_thought_17 : decode cX6_thought 17 = .ok (.ireturn, 1) := by decide +kernel
theorem dX6_thought_18 : decode cX6_thought 18 = .ok (.aload_n 0, 1) := by decide +kernel
theorem dX6_thought_19 : decode cX6_thought 19 = .ok (.getfield 28, 3) := by decide +kernel
theorem dX6_thought_22 : decode cX6_thought 22 = .ok (.iload_n 1, 1) := by decide +kernel
theorem dX6_thought_23 : decode cX6_thought 23 = .ok (.iload_n 2, 1) := by decide +kernel
theorem dX6_thought_24 : decode cX6_thought 24 = .ok (.invokevirtual 114, 3) := by decide +kernel
theorem dX6_thought_27 : decode cX6_thought 27 = .ok (.ireturn, 1) := by decide +kernel
theorem dX6_lets_0 : decode cX6_lets 0 = .ok (.aload_n 0, 1) := by decide +kernel
theorem dX6_lets_1 : decode cX6_lets 1 = .ok (.iload_n 1, 1) := by decide +kernel
theorem dX6_lets_2 : decode cX6_lets 2 = .ok (.invokevirtual 77, 3) := by decide +kernel
theorem dX6_lets_5 : decode cX6_lets 5 = .ok (.ifCond .ne 20, 3) := by decide +kernel
theorem dX6_lets_8 : decode cX6_lets 8 = .ok (.iload_n 2, 1) := by decide +kernel
theorem dX6_lets_9 : decode cX6_lets 9 = .ok (.invokestatic 111, 3) := by decide +kernel
theorem dX6_lets_12 : decode cX6_lets 12 = .ok (.ifCond .ne 13, 3) := by decide +kernel
theorem dX6_lets_15 : decode cX6_lets 15 = .ok (.iload_n 3, 1) := by decide +kernel
theorem dX6_lets_16 : decode cX6_lets 16 = .ok (.iconst 0, 1) := by decide +kernel
theorem dX6_lets_17 : decode cX6_lets 17 = .ok (.bipush 9, 2) := by decide +kernel
theorem dX6_lets_19 : decode cX6_lets 19 = .ok (.invokestatic 63, 3) := by decide +kernel
theorem dX6_lets_22 : decode cX6_lets 22 = .ok (.ifCond .eq 6, 3) := by decide +kernel
theorem dX6_lets_25 : decode cX6_lets 25 = .ok (.ldc 67, 2) := by decide +kernel
theorem dX6_lets_27 : decode cX6_lets 27 = .ok (.ireturn, 1) := by decide +kernel
theorem dX6_lets_28 : decode cX6_lets 28 = .ok (.aload_n 0, 1) := by decide +kernel
theorem dX6_lets_29 : decode cX6_lets 29 = .ok (.getfield 28, 3) := by decide +kernel
theorem dX6_lets_32 : decode cX6_lets 32 = .ok (.iload_n 1, 1) := by decide +kernel
theorem dX6_lets_33 : decode cX6_lets 33 = .ok (.iload_n 2, 1) := by decide +kernel
theorem dX6_lets_34 : decode cX6_lets 34 = .ok (.invokevirtual 114, 3) := by decide +kernel
theorem dX6_lets_37 : decode cX6_lets 37 = .ok (.istore 4, 2) := by decide +kernel
theorem dX6_lets_39 : decode cX6_lets 39 = .ok (.aload_n 0, 1) := by decide +kernel
theorem dX6_lets_40 : decode cX6_lets 40 = .ok (.getfield 28, 3) := by decide +kernel
theorem dX6_lets_43 : decode cX6_lets 43 = .ok (.iload_n 1, 1) := by decide +kernel
theorem dX6_lets_44 : decode cX6_lets 44 = .ok (.iload_n 2, 1) := by decide +kernel
theorem dX6_lets_45 : decode cX6_lets 45 = .ok (.iload_n 3, 1) := by decide +kernel
theorem dX6_lets_46 : decode cX6_lets 46 = .ok (.invokevirtual 118, 3) := by decide +kernel
theorem dX6_lets_49 : decode cX6_lets 49 = .ok (.iload 4, 2) := by decide +kernel
theorem dX6_lets_51 : decode cX6_lets 51 = .ok (.ireturn, 1) := by decide +kernel
theorem dX6_says_0 : decode cX6_says 0 = .ok (.aload_n 0, 1) := by decide +kernel
theorem dX6_says_1 : decode cX6_says 1 = .ok (.iload_n 1, 1) := by decide +kernel
theorem dX6_says_2 : decode cX6_says 2 = .ok (.invokevirtual 77, 3) := by decide +kernel
theorem dX6_says_5 : decode cX6_says 5 = .ok (.ifCond .ne 10, 3) := by decide +kernel
theorem dX6_says_8 : decode cX6_says 8 = .ok (.iload_n 2, 1) := by decide +kernel
theorem dX6_says_9 : decode cX6_says 9 = .ok (.invokestatic 111, 3) := by decide +kernel
theorem dX6_says_12 : decode cX6_says 12 = .ok (.ifCond .eq 6, 3) := by decide +kernel
theorem dX6_says_15 : decode cX6_says 15 = .ok (.ldc 67, 2) := by decide +kernel
theorem dX6_says_17 : decode cX6_says 17 = .ok (.ireturn, 1) := by decide +kernel
theorem dX6_says_18 : decode cX6_says 18 = .ok (.aload_n 0, 1) := by decide +kernel
theorem dX6_says_19 : decode cX6_says 19 = .ok (.getfield 28, 3) := by decide +kernel
theorem dX6_says_22 : decode cX6_says 22 = .ok (.iload_n 1, 1) := by decide +kernel
theorem dX6_says_23 : decode cX6_says 23 = .ok (.iload_n 2, 1) := by decide +kernel
theorem dX6_says_24 : decode cX6_says 24 = .ok (.invokevirtual 121, 3) := by decide +kernel
theorem dX6_says_27 : decode cX6_says 27 = .ok (.ireturn, 1) := by decide +kernel
theorem dX6_heeds_0 : decode cX6_heeds 0 = .ok (.aload_n 0, 1) := by decide +kernel
theorem dX6_heeds_1 : decode cX6_heeds 1 = .ok (.iload_n 1, 1) := by decide +kernel
theorem dX6_heeds_2 : decode cX6_heeds 2 = .ok (.invokevirtual 77, 3) := by decide +kernel
theorem dX6_heeds_5 : decode cX6_heeds 5 = .ok (.ifCond .ne 20, 3) := by decide +kernel
theorem dX6_heeds_8 : decode cX6_heeds 8 = .ok (.iload_n 2, 1) := by decide +kernel
theorem dX6_heeds_9 : decode cX6_heeds 9 = .ok (.invokestatic 111, 3) := by decide +kernel
theorem dX6_heeds_12 : decode cX6_heeds 12 = .ok (.ifCond .ne 13, 3) := by decide +kernel
theorem dX6_heeds_15 : decode cX6_heeds 15 = .ok (.iload_n 3, 1) := by decide +kernel
theorem dX6_heeds_16 : decode cX6_heeds 16 = .ok (.iconst 1, 1) := by decide +kernel
theorem dX6_heeds_17 : decode cX6_heeds 17 = .ok (.bipush 9, 2) := by decide +kernel
theorem dX6_heeds_19 : decode cX6_heeds 19 = .ok (.invokestatic 63, 3) := by decide +kernel
theorem dX6_heeds_22 : decode cX6_heeds 22 = .ok (.ifCond .eq 6, 3) := by decide +kernel
theorem dX6_heeds_25 : decode cX6_heeds 25 = .ok (.ldc 67, 2) := by decide +kernel
theorem dX6_heeds_27 : decode cX6_heeds 27 = .ok (.ireturn, 1) := by decide +kernel
theorem dX6_heeds_28 : decode cX6_heeds 28 = .ok (.aload_n 0, 1) := by decide +kernel
theorem dX6_heeds_29 : decode cX6_heeds 29 = .ok (.getfield 28, 3) := by decide +kernel
theorem dX6_heeds_32 : decode cX6_heeds 32 = .ok (.iload_n 1, 1) := by decide +kernel
theorem dX6_heeds_33 : decode cX6_heeds 33 = .ok (.iload_n 2, 1) := by decide +kernel
theorem dX6_heeds_34 : decode cX6_heeds 34 = .ok (.iload_n 3, 1) := by decide +kernel
theorem dX6_heeds_35 : decode cX6_heeds 35 = .ok (.invokevirtual 124, 3) := by decide +kernel
theorem dX6_heeds_38 : decode cX6_heeds 38 = .ok (.ireturn, 1) := by decide +kernel
theorem dX6_sow_0 : decode cX6_sow 0 = .ok (.iload_n 1, 1) := by decide +kernel
theorem dX6_sow_1 : decode cX6_sow 1 = .ok (.invokestatic 111, 3) := by decide +kernel
theorem dX6_sow_4 : decode cX6_sow 4 = .ok (.ifCond .ne 13, 3) := by decide +kernel
theorem dX6_sow_7 : decode cX6_sow 7 = .ok (.iload_n 2, 1) := by decide +kernel
theorem dX6_sow_8 : decode cX6_sow 8 = .ok (.iconst 0, 1) := by decide +kernel
theorem dX6_sow_9 : decode cX6_sow 9 = .ok (.bipush 9, 2) := by decide +kernel
theorem dX6_sow_11 : decode cX6_sow 11 = .ok (.invokestatic 63, 3) := by decide +kernel
theorem dX6_sow_14 : decode cX6_sow 14 = .ok (.ifCond .eq 6, 3) := by decide +kernel
theorem dX6_sow_17 : decode cX6_sow 17 = .ok (.ldc 67, 2) := by decide +kernel
theorem dX6_sow_19 : decode cX6_sow 19 = .ok (.ireturn, 1) := by decide +kernel
theorem dX6_sow_20 : decode cX6_sow 20 = .ok (.aload_n 0, 1) := by decide +kernel
theorem dX6_sow_21 : decode cX6_sow 21 = .ok (.getfield 28, 3) := by decide +kernel
theorem dX6_sow_24 : decode cX6_sow 24 = .ok (.getfield 128, 3) := by decide +kernel
theorem dX6_sow_27 : decode cX6_sow 27 = .ok (.iload_n 1, 1) := by decide +kernel
theorem dX6_sow_28 : decode cX6_sow 28 = .ok (.iaload, 1) := by decide +kernel
theorem dX6_sow_29 : decode cX6_sow 29 = .ok (.istore_n 3, 1) := by decide +kernel
theorem dX6_sow_30 : decode cX6_sow 30 = .ok (.aload_n 0, 1) := by decide +kernel
theorem dX6_sow_31 : decode cX6_sow 31 = .ok (.getfield 28, 3) := by decide +kernel
theorem dX6_sow_34 : decode cX6_sow 34 = .ok (.getfield 128, 3) := by decide +kernel
theorem dX6_sow_37 : decode cX6_sow 37 = .ok (.iload_n 1, 1) := by decide +kernel
theorem dX6_sow_38 : decode cX6_sow 38 = .ok (.iload_n 2, 1) := by decide +kernel
theorem dX6_sow_39 : decode cX6_sow 39 = .ok (.iastore, 1) := by decide +kernel
theorem dX6_sow_40 : decode cX6_sow 40 = .ok (.iload_n 3, 1) := by decide +kernel
theorem dX6_sow_41 : decode cX6_sow 41 = .ok (.ireturn, 1) := by decide +kernel
theorem dX6_field_0 : decode cX6_field 0 = .ok (.iload_n 1, 1) := by decide +kernel
theorem dX6_field_1 : decode cX6_field 1 = .ok (.invokestatic 111, 3) := by decide +kernel
theorem dX6_field_4 : decode cX6_field 4 = .ok (.ifCond .eq 6, 3) := by decide +kernel
theorem dX6_field_7 : decode cX6_field 7 = .ok (.ldc 67, 2) := by decide +kernel
theorem dX6_field_9 : decode cX6_field 9 = .ok (.ireturn, 1) := by decide +kernel
theorem dX6_field_10 : decode cX6_field 10 = .ok (.aload_n 0, 1) := by decide +kernel
theorem dX6_field_11 : decode cX6_field 11 = .ok (.getfield 28, 3) := by decide +kernel
theorem dX6_field_14 : decode cX6_field 14 = .ok (.iload_n 1, 1) := by decide +kernel
theorem dX6_field_15 : decode cX6_field 15 = .ok (.invokevirtual 131, 3) := by decide +kernel
theorem dX6_field_18 : decode cX6_field 18 = .ok (.istore_n 3, 1) := by decide +kernel
theorem dX6_field_19 : decode cX6_field 19 = .ok (.iload_n 2, 1) := by decide +kernel
theorem dX6_field_20 : decode cX6_field 20 = .ok (.tableswitch 78 0 4 #[36, 46, 56, 58, 68], 36) := by decide +kernel
theorem dX6_field_56 : decode cX6_field 56 = .ok (.aload_n 0, 1) := by decide +kernel
theorem dX6_field_57 : decode cX6_field 57 = .ok (.getfield 28, 3) := by decide +kernel
theorem dX6_field_60 : decode cX6_field 60 = .ok (.getfield 128, 3) := by decide +kernel
theorem dX6_field_63 : decode cX6_field 63 = .ok (.iload_n 1, 1) := by decide +kernel
theorem dX6_field_64 : decode cX6_field 64 = .ok (.iaload, 1) := by decide +kernel
theorem dX6_field_65 : decode cX6_field 65 = .ok (.ireturn, 1) := by decide +kernel
theorem dX6_field_66 : decode cX6_field 66 = .ok (.aload_n 0, 1) := by decide +kernel
theorem dX6_field_67 : decode cX6_field 67 = .ok (.getfield 28, 3) := by decide +kernel
theorem dX6_field_70 : decode cX6_field 70 = .ok (.getfield 134, 3) := by decide +kernel
theorem dX6_field_73 : decode cX6_field 73 = .ok (.iload_n 1, 1) := by decide +kernel
theorem dX6_field_74 : decode cX6_field 74 = .ok (.iaload, 1) := by decide +kernel
theorem dX6_field_75 : decode cX6_field 75 = .ok (.ireturn, 1) := by decide +kernel
theorem dX6_field_76 : decode cX6_field 76 = .ok (.iload_n 3, 1) := by decide +kernel
theorem dX6_field_77 : decode cX6_field 77 = .ok (.ireturn, 1) := by decide +kernel
theorem dX6_field_78 : decode cX6_field 78 = .ok (.aload_n 0, 1) := by decide +kernel
theorem dX6_field_79 : decode cX6_field 79 = .ok (.getfield 28, 3) := by decide +kernel
theorem dX6_field_82 : decode cX6_field 82 = .ok (.iload_n 1, 1) := by decide +kernel
theorem dX6_field_83 : decode cX6_field 83 = .ok (.iload_n 3, 1) := by decide +kernel
theorem dX6_field_84 : decode cX6_field 84 = .ok (.invokevirtual 137, 3) := by decide +kernel
theorem dX6_field_87 : decode cX6_field 87 = .ok (.ireturn, 1) := by decide +kernel
theorem dX6_field_88 : decode cX6_field 88 = .ok (.aload_n 0, 1) := by decide +kernel
theorem dX6_field_89 : decode cX6_field 89 = .ok (.getfield 28, 3) := by decide +kernel
theorem dX6_field_92 : decode cX6_field 92 = .ok (.iload_n 1, 1) := by decide +kernel
theorem dX6_field_93 : decode cX6_field 93 = .ok (.iload_n 3, 1) := by decide +kernel
theorem dX6_field_94 : decode cX6_field 94 = .ok (.invokevirtual 140, 3) := by decide +kernel
theorem dX6_field_97 : decode cX6_field 97 = .ok (.ireturn, 1) := by decide +kernel
theorem dX6_field_98 : decode cX6_field 98 = .ok (.ldc 67, 2) := by decide +kernel
theorem dX6_field_100 : decode cX6_field 100 = .ok (.ireturn, 1) := by decide +kernel
theorem dX6_votes_0 : decode cX6_votes 0 = .ok (.iload_n 1, 1) := by decide +kernel
theorem dX6_votes_1 : decode cX6_votes 1 = .ok (.invokestatic 111, 3) := by decide +kernel
theorem dX6_votes_4 : decode cX6_votes 4 = .ok (.ifCond .ne 13, 3) := by decide +kernel
theorem dX6_votes_7 : decode cX6_votes 7 = .ok (.iload_n 2, 1) := by decide +kernel
theorem dX6_votes_8 : decode cX6_votes 8 = .ok (.iconst 1, 1) := by decide +kernel
theorem dX6_votes_9 : decode cX6_votes 9 = .ok (.bipush 9, 2) := by decide +kernel
theorem dX6_votes_11 : decode cX6_votes 11 = .ok (.invokestatic 63, 3) := by decide +kernel
theorem dX6_votes_14 : decode cX6_votes 14 = .ok (.ifCond .eq 6, 3) := by decide +kernel
theorem dX6_votes_17 : decode cX6_votes 17 = .ok (.ldc 67, 2) := by decide +kernel
theorem dX6_votes_19 : decode cX6_votes 19 = .ok (.ireturn, 1) := by decide +kernel
theorem dX6_votes_20 : decode cX6_votes 20 = .ok (.aload_n 0, 1) := by decide +kernel
theorem dX6_votes_21 : decode cX6_votes 21 = .ok (.getfield 28, 3) := by decide +kernel
theorem dX6_votes_24 : decode cX6_votes 24 = .ok (.iload_n 1, 1) := by decide +kernel
theorem dX6_votes_25 : decode cX6_votes 25 = .ok (.iload_n 2, 1) := by decide +kernel
theorem dX6_votes_26 : decode cX6_votes 26 = .ok (.invokevirtual 137, 3) := by decide +kernel
theorem dX6_votes_29 : decode cX6_votes 29 = .ok (.ireturn, 1) := by decide +kernel
theorem dX6_deal_0 : decode cX6_deal 0 = .ok (.iload_n 1, 1) := by decide +kernel
theorem dX6_deal_1 : decode cX6_deal 1 = .ok (.iconst 1, 1) := by decide +kernel
theorem dX6_deal_2 : decode cX6_deal 2 = .ok (.bipush 8, 2) := by decide +kernel
theorem dX6_deal_4 : decode cX6_deal 4 = .ok (.invokestatic 63, 3) := by decide +kernel
theorem dX6_deal_7 : decode cX6_deal 7 = .ok (.ifCond .eq 6, 3) := by decide +kernel
theorem dX6_deal_10 : decode cX6_deal 10 = .ok (.ldc 67, 2) := by decide +kernel
theorem dX6_deal_12 : decode cX6_deal 12 = .ok (.ireturn, 1) := by decide +kernel
theorem dX6_deal_13 : decode cX6_deal 13 = .ok (.iload_n 1, 1) := by decide +kernel
theorem dX6_deal_14 : decode cX6_deal 14 = .ok (.bipush 8, 2) := by decide +kernel
theorem dX6_deal_16 : decode cX6_deal 16 = .ok (.aload_n 0, 1) := by decide +kernel
theorem dX6_deal_17 : decode cX6_deal 17 = .ok (.getfield 28, 3) := by decide +kernel
theorem dX6_deal_20 : decode cX6_deal 20 = .ok (.getfield 68, 3) := by decide +kernel
theorem dX6_deal_23 : decode cX6_deal 23 = .ok (.isub, 1) := by decide +kernel
theorem dX6_deal_24 : decode cX6_deal 24 = .ok (.invokestatic 143, 3) := by decide +kernel
theorem dX6_deal_27 : decode cX6_deal 27 = .ok (.istore_n 2, 1) := by decide +kernel
theorem dX6_deal_28 : decode cX6_deal 28 = .ok (.iconst 0, 1) := by decide +kernel
theorem dX6_deal_29 : decode cX6_deal 29 = .ok (.istore_n 3, 1) := by decide +kernel
theorem dX6_deal_30 : decode cX6_deal 30 = .ok (.iload_n 3, 1) := by decide +kernel
theorem dX6_deal_31 : decode cX6_deal 31 = .ok (.iload_n 2, 1) := by decide +kernel
theorem dX6_deal_32 : decode cX6_deal 32 = .ok (.if_icmp .ge 16, 3) := by decide +kernel
theorem dX6_deal_35 : decode cX6_deal 35 = .ok (.aload_n 0, 1) := by decide +kernel
theorem dX6_deal_36 : decode cX6_deal 36 = .ok (.getfield 28, 3) := by decide +kernel
theorem dX6_deal_39 : decode cX6_deal 39 = .ok (.invokevirtual 148, 3) := by decide +kernel
theorem dX6_deal_42 : decode cX6_deal 42 = .ok (.iinc 3 1, 3) := by decide +kernel
theorem dX6_deal_45 : decode cX6_deal 45 = .ok (.goto (-15), 3) := by decide +kernel
theorem dX6_deal_48 : decode cX6_deal 48 = .ok (.iload_n 2, 1) := by decide +kernel
theorem dX6_deal_49 : decode cX6_deal 49 = .ok (.ireturn, 1) := by decide +kernel
theorem dX6_seed_0 : decode cX6_seed 0 = .ok (.aload_n 0, 1) := by decide +kernel
theorem dX6_seed_1 : decode cX6_seed 1 = .ok (.getfield 28, 3) := by decide +kernel
theorem dX6_seed_4 : decode cX6_seed 4 = .ok (.getfield 151, 3) := by decide +kernel
theorem dX6_seed_7 : decode cX6_seed 7 = .ok (.istore_n 2, 1) := by decide +kernel
theorem dX6_seed_8 : decode cX6_seed 8 = .ok (.aload_n 0, 1) := by decide +kernel
theorem dX6_seed_9 : decode cX6_seed 9 = .ok (.getfield 28, 3) := by decide +kernel
theorem dX6_seed_12 : decode cX6_seed 12 = .ok (.iload_n 1, 1) := by decide +kernel
theorem dX6_seed_13 : decode cX6_seed 13 = .ok (.putfield 151, 3) := by decide +kernel
theorem dX6_seed_16 : decode cX6_seed 16 = .ok (.iload_n 2, 1) := by decide +kernel
theorem dX6_seed_17 : decode cX6_seed 17 = .ok (.ireturn, 1) := by decide +kernel
theorem dX6_weeks_0 : decode cX6_weeks 0 = .ok (.iload_n 1, 1) := by decide +kernel
theorem dX6_weeks_1 : decode cX6_weeks 1 = .ok (.iconst 1, 1) := by decide +kernel
theorem dX6_weeks_2 : decode cX6_weeks 2 = .ok (.bipush 100, 2) := by decide +kernel
theorem dX6_weeks_4 : decode cX6_weeks 4 = .ok (.invokestatic 63, 3) := by decide +kernel
theorem dX6_weeks_7 : decode cX6_weeks 7 = .ok (.ifCond .eq 6, 3) := by decide +kernel
theorem dX6_weeks_10 : decode cX6_weeks 10 = .ok (.ldc 67, 2) := by decide +kernel
theorem dX6_weeks_12 : decode cX6_weeks 12 = .ok (.ireturn, 1) := by decide +kernel
theorem dX6_weeks_13 : decode cX6_weeks 13 = .ok (.aload_n 0, 1) := by decide +kernel
theorem dX6_weeks_14 : decode cX6_weeks 14 = .ok (.getfield 28, 3) := by decide +kernel
theorem dX6_weeks_17 : decode cX6_weeks 17 = .ok (.getfield 154, 3) := by decide +kernel
theorem dX6_weeks_20 : decode cX6_weeks 20 = .ok (.istore_n 2, 1) := by decide +kernel
theorem dX6_weeks_21 : decode cX6_weeks 21 = .ok (.aload_n 0, 1) := by decide +kernel
theorem dX6_weeks_22 : decode cX6_weeks 22 = .ok (.getfield 28, 3) := by decide +kernel
theorem dX6_weeks_25 : decode cX6_weeks 25 = .ok (.iload_n 1, 1) := by decide +kernel
theorem dX6_weeks_26 : decode cX6_weeks 26 = .ok (.sipush 9999, 3) := by decide +kernel
theorem dX6_weeks_29 : decode cX6_weeks 29 = .ok (.aload_n 0, 1) := by decide +kernel
theorem dX6_weeks_30 : decode cX6_weeks 30 = .ok (.getfield 28, 3) := by decide +kernel
theorem dX6_weeks_33 : decode cX6_weeks 33 = .ok (.getfield 157, 3) := by decide +kernel
theorem dX6_weeks_36 : decode cX6_weeks 36 = .ok (.isub, 1) := by decide +kernel
theorem dX6_weeks_37 : decode cX6_weeks 37 = .ok (.invokestatic 143, 3) := by decide +kernel
theorem dX6_weeks_40 : decode cX6_weeks 40 = .ok (.invokevirtual 160, 3) := by decide +kernel
theorem dX6_weeks_43 : decode cX6_weeks 43 = .ok (.aload_n 0, 1) := by decide +kernel
theorem dX6_weeks_44 : decode cX6_weeks 44 = .ok (.getfield 28, 3) := by decide +kernel
theorem dX6_weeks_47 : decode cX6_weeks 47 = .ok (.getfield 154, 3) := by decide +kernel
theorem dX6_weeks_50 : decode cX6_weeks 50 = .ok (.iload_n 2, 1) := by decide +kernel
theorem dX6_weeks_51 : decode cX6_weeks 51 = .ok (.isub, 1) := by decide +kernel
theorem dX6_weeks_52 : decode cX6_weeks 52 = .ok (.ireturn, 1) := by decide +kernel
theorem dX6_county_0 : decode cX6_county 0 = .ok (.iload_n 1, 1) := by decide +kernel
theorem dX6_county_1 : decode cX6_county 1 = .ok (.tableswitch 75 0 4 #[35, 43, 51, 59, 67], 35) := by decide +kernel
theorem dX6_county_36 : decode cX6_county 36 = .ok (.aload_n 0, 1) := by decide +kernel
theorem dX6_county_37 : decode cX6_county 37 = .ok (.getfield 28, 3) := by decide +kernel
theorem dX6_county_40 : decode cX6_county 40 = .ok (.getfield 154, 3) := by decide +kernel
theorem dX6_county_43 : decode cX6_county 43 = .ok (.ireturn, 1) := by decide +kernel
theorem dX6_county_44 : decode cX6_county 44 = .ok (.aload_n 0, 1) := by decide +kernel
theorem dX6_county_45 : decode cX6_county 45 = .ok (.getfield 28, 3) := by decide +kernel
theorem dX6_county_48 : decode cX6_county 48 = .ok (.getfield 164, 3) := by decide +kernel
theorem dX6_county_51 : decode cX6_county 51 = .ok (.ireturn, 1) := by decide +kernel
theorem dX6_county_52 : decode cX6_county 52 = .ok (.aload_n 0, 1) := by decide +kernel
theorem dX6_county_53 : decode cX6_county 53 = .ok (.getfield 28, 3) := by decide +kernel
theorem dX6_county_56 : decode cX6_county 56 = .ok (.getfield 167, 3) := by decide +kernel
theorem dX6_county_59 : decode cX6_county 59 = .ok (.ireturn, 1) := by decide +kernel
theorem dX6_county_60 : decode cX6_county 60 = .ok (.aload_n 0, 1) := by decide +kernel
theorem dX6_county_61 : decode cX6_county 61 = .ok (.getfield 28, 3) := by decide +kernel
theorem dX6_county_64 : decode cX6_county 64 = .ok (.invokevirtual 170, 3) := by decide +kernel
theorem dX6_county_67 : decode cX6_county 67 = .ok (.ireturn, 1) := by decide +kernel
theorem dX6_county_68 : decode cX6_county 68 = .ok (.aload_n 0, 1) := by decide +kernel
theorem dX6_county_69 : decode cX6_county 69 = .ok (.getfield 28, 3) := by decide +kernel
theorem dX6_county_72 : decode cX6_county 72 = .ok (.invokevirtual 174, 3) := by decide +kernel
theorem dX6_county_75 : decode cX6_county 75 = .ok (.ireturn, 1) := by decide +kernel
theorem dX6_county_76 : decode cX6_county 76 = .ok (.ldc 67, 2) := by decide +kernel
theorem dX6_county_78 : decode cX6_county 78 = .ok (.ireturn, 1) := by decide +kernel
theorem dX6_behind_0 : decode cX6_behind 0 = .ok (.iload_n 1, 1) := by decide +kernel
theorem dX6_behind_1 : decode cX6_behind 1 = .ok (.iconst 0, 1) := by decide +kernel
theorem dX6_behind_2 : decode cX6_behind 2 = .ok (.bipush 100, 2) := by decide +kernel
theorem dX6_behind_4 : decode cX6_behind 4 = .ok (.invokestatic 63, 3) := by decide +kernel
theorem dX6_behind_7 : decode cX6_behind 7 = .ok (.ifCond .ne 13, 3) := by decide +kernel
theorem dX6_behind_10 : decode cX6_behind 10 = .ok (.iload_n 2, 1) := by decide +kernel
theorem dX6_behind_11 : decode cX6_behind 11 = .ok (.iconst 0, 1) := by decide +kernel
theorem dX6_behind_12 : decode cX6_behind 12 = .ok (.bipush 8, 2) := by decide +kernel
theorem dX6_behind_14 : decode cX6_behind 14 = .ok (.invokestatic 63, 3) := by decide +kernel
theorem dX6_behind_17 : decode cX6_behind 17 = .ok (.ifCond .eq 6, 3) := by decide +kernel
theorem dX6_behind_20 : decode cX6_behind 20 = .ok (.ldc 67, 2) := by decide +kernel
theorem dX6_behind_22 : decode cX6_behind 22 = .ok (.ireturn, 1) := by decide +kernel
theorem dX6_behind_23 : decode cX6_behind 23 = .ok (.aload_n 0, 1) := by decide +kernel
theorem dX6_behind_24 : decode cX6_behind 24 = .ok (.getfield 35, 3) := by decide +kernel
theorem dX6_behind_27 : decode cX6_behind 27 = .ok (.aload_n 0, 1) := by decide +kernel
theorem dX6_behind_28 : decode cX6_behind 28 = .ok (.getfield 28, 3) := by decide +kernel
theorem dX6_behind_31 : decode cX6_behind 31 = .ok (.invokevirtual 177, 3) := by decide +kernel
theorem dX6_behind_34 : decode cX6_behind 34 = .ok (.aload_n 0, 1) := by decide +kernel
theorem dX6_behind_35 : decode cX6_behind 35 = .ok (.getfield 35, 3) := by decide +kernel
theorem dX6_behind_38 : decode cX6_behind 38 = .ok (.iload_n 1, 1) := by decide +kernel
theorem dX6_behind_39 : decode cX6_behind 39 = .ok (.invokevirtual 160, 3) := by decide +kernel
theorem dX6_behind_42 : decode cX6_behind 42 = .ok (.iload_n 2, 1) := by decide +kernel
theorem dX6_behind_43 : decode cX6_behind 43 = .ok (.tableswitch 49 0 2 #[25, 33, 41], 25) := by decide +kernel
theorem dX6_behind_68 : decode cX6_behind 68 = .ok (.aload_n 0, 1) := by decide +kernel
theorem dX6_behind_69 : decode cX6_behind 69 = .ok (.getfield 35, 3) := by decide +kernel
theorem dX6_behind_72 : decode cX6_behind 72 = .ok (.getfield 154, 3) := by decide +kernel
theorem dX6_behind_75 : decode cX6_behind 75 = .ok (.ireturn, 1) := by decide +kernel
theorem dX6_behind_76 : decode cX6_behind 76 = .ok (.aload_n 0, 1) := by decide +kernel
theorem dX6_behind_77 : decode cX6_behind 77 = .ok (.getfield 35, 3) := by decide +kernel
theorem dX6_behind_80 : decode cX6_behind 80 = .ok (.getfield 164, 3) := by decide +kernel
theorem dX6_behind_83 : decode cX6_behind 83 = .ok (.ireturn, 1) := by decide +kernel
theorem dX6_behind_84 : decode cX6_behind 84 = .ok (.aload_n 0, 1) := by decide +kernel
theorem dX6_behind_85 : decode cX6_behind 85 = .ok (.getfield 35, 3) := by decide +kernel
theorem dX6_behind_88 : decode cX6_behind 88 = .ok (.getfield 167, 3) := by decide +kernel
theorem dX6_behind_91 : decode cX6_behind 91 = .ok (.ireturn, 1) := by decide +kernel
theorem dX6_behind_92 : decode cX6_behind 92 = .ok (.aload_n 0, 1) := by decide +kernel
theorem dX6_behind_93 : decode cX6_behind 93 = .ok (.getfield 35, 3) := by decide +kernel
theorem dX6_behind_96 : decode cX6_behind 96 = .ok (.getfield 134, 3) := by decide +kernel
theorem dX6_behind_99 : decode cX6_behind 99 = .ok (.iload_n 2, 1) := by decide +kernel
theorem dX6_behind_100 : decode cX6_behind 100 = .ok (.iconst 3, 1) := by decide +kernel
theorem dX6_behind_101 : decode cX6_behind 101 = .ok (.isub, 1) := by decide +kernel
theorem dX6_behind_102 : decode cX6_behind 102 = .ok (.iaload, 1) := by decide +kernel
theorem dX6_behind_103 : decode cX6_behind 103 = .ok (.ireturn, 1) := by decide +kernel
theorem dX6_first_0 : decode cX6_first 0 = .ok (.iload_n 1, 1) := by decide +kernel
theorem dX6_first_1 : decode cX6_first 1 = .ok (.invokestatic 111, 3) := by decide +kernel
theorem dX6_first_4 : decode cX6_first 4 = .ok (.ifCond .ne 13, 3) := by decide +kernel
theorem dX6_first_7 : decode cX6_first 7 = .ok (.iload_n 2, 1) := by decide +kernel
theorem dX6_first_8 : decode cX6_first 8 = .ok (.iconst 0, 1) := by decide +kernel
theorem dX6_first_9 : decode cX6_first 9 = .ok (.bipush 9, 2) := by decide +kernel
theorem dX6_first_11 : decode cX6_first 11 = .ok (.invokestatic 63, 3) := by decide +kernel
theorem dX6_first_14 : decode cX6_first 14 = .ok (.ifCond .eq 6, 3) := by decide +kernel
theorem dX6_first_17 : decode cX6_first 17 = .ok (.ldc 67, 2) := by decide +kernel
theorem dX6_first_19 : decode cX6_first 19 = .ok (.ireturn, 1) := by decide +kernel
theorem dX6_first_20 : decode cX6_first 20 = .ok (.aload_n 0, 1) := by decide +kernel
theorem dX6_first_21 : decode cX6_first 21 = .ok (.getfield 35, 3) := by decide +kernel
theorem dX6_first_24 : decode cX6_first 24 = .ok (.aload_n 0, 1) := by decide +kernel
theorem dX6_first_25 : decode cX6_first 25 = .ok (.getfield 28, 3) := by decide +kernel
theorem dX6_first_28 : decode cX6_first 28 = .ok (.invokevirtual 177, 3) := by decide +kernel
theorem dX6_first_31 : decode cX6_first 31 = .ok (.iconst 0, 1) := by decide +kernel
theorem dX6_first_32 : decode cX6_first 32 = .ok (.istore_n 3, 1) := by decide +kernel
theorem dX6_first_33 : decode cX6_first 33 = .ok (.iload_n 3, 1) := by decide +kernel
theorem dX6_first_34 : decode cX6_first 34 = .ok (.sipush 200, 3) := by decide +kernel
theorem dX6_first_37 : decode cX6_first 37 = .ok (.if_icmp .gt 32, 3) := by decide +kernel
theorem dX6_first_40 : decode cX6_first 40 = .ok (.aload_n 0, 1) := by decide +kernel
theorem dX6_first_41 : decode cX6_first 41 = .ok (.getfield 35, 3) := by decide +kernel
theorem dX6_first_44 : decode cX6_first 44 = .ok (.getfield 134, 3) := by decide +kernel
theorem dX6_first_47 : decode cX6_first 47 = .ok (.iload_n 1, 1) := by decide +kernel
theorem dX6_first_48 : decode cX6_first 48 = .ok (.iaload, 1) := by decide +kernel
theorem dX6_first_49 : decode cX6_first 49 = .ok (.iload_n 2, 1) := by decide +kernel
theorem dX6_first_50 : decode cX6_first 50 = .ok (.if_icmp .ne 5, 3) := by decide +kernel
theorem dX6_first_53 : decode cX6_first 53 = .ok (.iload_n 3, 1) := by decide +kernel
theorem dX6_first_54 : decode cX6_first 54 = .ok (.ireturn, 1) := by decide +kernel
theorem dX6_first_55 : decode cX6_first 55 = .ok (.aload_n 0, 1) := by decide +kernel
theorem dX6_first_56 : decode cX6_first 56 = .ok (.getfield 35, 3) := by decide +kernel
theorem dX6_first_59 : decode cX6_first 59 = .ok (.iconst 1, 1) := by decide +kernel
theorem dX6_first_60 : decode cX6_first 60 = .ok (.invokevirtual 160, 3) := by decide +kernel
theorem dX6_first_63 : decode cX6_first 63 = .ok (.iinc 3 1, 3) := by decide +kernel
theorem dX6_first_66 : decode cX6_first 66 = .ok (.goto (-33), 3) := by decide +kernel
theorem dX6_first_69 : decode cX6_first 69 = .ok (.ldc 181, 2) := by decide +kernel
theorem dX6_first_71 : decode cX6_first 71 = .ok (.ireturn, 1) := by decide +kernel
theorem dX6_ear_0 : decode cX6_ear 0 = .ok (.iload_n 1, 1) := by decide +kernel
theorem dX6_ear_1 : decode cX6_ear 1 = .ok (.invokestatic 111, 3) := by decide +kernel
theorem dX6_ear_4 : decode cX6_ear 4 = .ok (.ifCond .ne 33, 3) := by decide +kernel
theorem dX6_ear_7 : decode cX6_ear 7 = .ok (.iload_n 2, 1) := by decide +kernel
theorem dX6_ear_8 : decode cX6_ear 8 = .ok (.iconst 1, 1) := by decide +kernel
theorem dX6_ear_9 : decode cX6_ear 9 = .ok (.bipush 9, 2) := by decide +kernel
theorem dX6_ear_11 : decode cX6_ear 11 = .ok (.invokestatic 63, 3) := by decide +kernel
theorem dX6_ear_14 : decode cX6_ear 14 = .ok (.ifCond .ne 23, 3) := by decide +kernel
theorem dX6_ear_17 : decode cX6_ear 17 = .ok (.iload_n 3, 1) := by decide +kernel
theorem dX6_ear_18 : decode cX6_ear 18 = .ok (.iconst 0, 1) := by decide +kernel
theorem dX6_ear_19 : decode cX6_ear 19 = .ok (.bipush 60, 2) := by decide +kernel
theorem dX6_ear_21 : decode cX6_ear 21 = .ok (.invokestatic 63, 3) := by decide +kernel
theorem dX6_ear_24 : decode cX6_ear 24 = .ok (.ifCond .ne 13, 3) := by decide +kernel
theorem dX6_ear_27 : decode cX6_ear 27 = .ok (.iload 4, 2) := by decide +kernel
theorem dX6_ear_29 : decode cX6_ear 29 = .ok (.iconst 0, 1) := by decide +kernel
theorem dX6_ear_30 : decode cX6_ear 30 = .ok (.iconst 1, 1) := by decide +kernel
theorem dX6_ear_31 : decode cX6_ear 31 = .ok (.invokestatic 63, 3) := by decide +kernel
theorem dX6_ear_34 : decode cX6_ear 34 = .ok (.ifCond .eq 6, 3) := by decide +kernel
theorem dX6_ear_37 : decode cX6_ear 37 = .ok (.ldc 67, 2) := by decide +kernel
theorem dX6_ear_39 : decode cX6_ear 39 = .ok (.ireturn, 1) := by decide +kernel
theorem dX6_ear_40 : decode cX6_ear 40 = .ok (.aload_n 0, 1) := by decide +kernel
theorem dX6_ear_41 : decode cX6_ear 41 = .ok (.getfield 28, 3) := by decide +kernel
theorem dX6_ear_44 : decode cX6_ear 44 = .ok (.getfield 68, 3) := by decide +kernel
theorem dX6_ear_47 : decode cX6_ear 47 = .ok (.ifCond .ne 6, 3) := by decide +kernel
theorem dX6_ear_50 : decode cX6_ear 50 = .ok (.ldc 181, 2) := by decide +kernel
theorem dX6_ear_52 : decode cX6_ear 52 = .ok (.ireturn, 1) := by decide +kernel
theorem dX6_ear_53 : decode cX6_ear 53 = .ok (.iconst 0, 1) := by decide +kernel
theorem dX6_ear_54 : decode cX6_ear 54 = .ok (.istore 5, 2) := by decide +kernel
theorem dX6_ear_56 : decode cX6_ear 56 = .ok (.iconst (-1), 1) := by decide +kernel
theorem dX6_ear_57 : decode cX6_ear 57 = .ok (.istore 6, 2) := by decide +kernel
theorem dX6_ear_59 : decode cX6_ear 59 = .ok (.iconst 0, 1) := by decide +kernel
theorem dX6_ear_60 : decode cX6_ear 60 = .ok (.istore 7, 2) := by decide +kernel
theorem dX6_ear_62 : decode cX6_ear 62 = .ok (.iload 7, 2) := by decide +kernel
theorem dX6_ear_64 : decode cX6_ear 64 = .ok (.aload_n 0, 1) := by decide +kernel
theorem dX6_ear_65 : decode cX6_ear 65 = .ok (.getfield 28, 3) := by decide +kernel
theorem dX6_ear_68 : decode cX6_ear 68 = .ok (.getfield 68, 3) := by decide +kernel
theorem dX6_ear_71 : decode cX6_ear 71 = .ok (.if_icmp .ge 53, 3) := by decide +kernel
theorem dX6_ear_74 : decode cX6_ear 74 = .ok (.aload_n 0, 1) := by decide +kernel
theorem dX6_ear_75 : decode cX6_ear 75 = .ok (.iconst 1, 1) := by decide +kernel
theorem dX6_ear_76 : decode cX6_ear 76 = .ok (.iload 7, 2) := by decide +kernel
theorem dX6_ear_78 : decode cX6_ear 78 = .ok (.ishl, 1) := by decide +kernel
theorem dX6_ear_79 : decode cX6_ear 79 = .ok (.iload_n 1, 1) := by decide +kernel
theorem dX6_ear_80 : decode cX6_ear 80 = .ok (.iload_n 2, 1) := by decide +kernel
theorem dX6_ear_81 : decode cX6_ear 81 = .ok (.invokevirtual 182, 3) := by decide +kernel
theorem dX6_ear_84 : decode cX6_ear 84 = .ok (.aload_n 0, 1) := by decide +kernel
theorem dX6_ear_85 : decode cX6_ear 85 = .ok (.getfield 35, 3) := by decide +kernel
theorem dX6_ear_88 : decode cX6_ear 88 = .ok (.iload_n 3, 1) := by decide +kernel
theorem dX6_ear_89 : decode cX6_ear 89 = .ok (.invokevirtual 160, 3) := by decide +kernel
theorem dX6_ear_92 : decode cX6_ear 92 = .ok (.aload_n 0, 1) := by decide +kernel
theorem dX6_ear_93 : decode cX6_ear 93 = .ok (.getfield 35, 3) := by decide +kernel
theorem dX6_ear_96 : decode cX6_ear 96 = .ok (.iload_n 1, 1) := by decide +kernel
theorem dX6_ear_97 : decode cX6_ear 97 = .ok (.iload_n 2, 1) := by decide +kernel
theorem dX6_ear_98 : decode cX6_ear 98 = .ok (.invokevirtual 137, 3) := by decide +kernel
theorem dX6_ear_101 : decode cX6_ear 101 = .ok (.istore 8, 2) := by decide +kernel
theorem dX6_ear_103 : decode cX6_ear 103 = .ok (.iload 8, 2) := by decide +kernel
theorem dX6_ear_105 : decode cX6_ear 105 = .ok (.iload 6, 2) := by decide +kernel
theorem dX6_ear_107 : decode cX6_ear 107 = .ok (.if_icmp .le 11, 3) := by decide +kernel
theorem dX6_ear_110 : decode cX6_ear 110 = .ok (.iload 7, 2) := by decide +kernel
theorem dX6_ear_112 : decode cX6_ear 112 = .ok (.istore 5, 2) := by decide +kernel
theorem dX6_ear_114 : decode cX6_ear 114 = .ok (.iload 8, 2) := by decide +kernel
theorem dX6_ear_116 : decode cX6_ear 116 = .ok (.istore 6, 2) := by decide +kernel
theorem dX6_ear_118 : decode cX6_ear 118 = .ok (.iinc 7 1, 3) := by decide +kernel
theorem dX6_ear_121 : decode cX6_ear 121 = .ok (.goto (-59), 3) := by decide +kernel
theorem dX6_ear_124 : decode cX6_ear 124 = .ok (.iload 4, 2) := by decide +kernel
theorem dX6_ear_126 : decode cX6_ear 126 = .ok (.ifCond .ne 8, 3) := by decide +kernel
theorem dX6_ear_129 : decode cX6_ear 129 = .ok (.iload 5, 2) := by decide +kernel
theorem dX6_ear_131 : decode cX6_ear 131 = .ok (.goto 5, 3) := by decide +kernel
theorem dX6_ear_134 : decode cX6_ear 134 = .ok (.iload 6, 2) := by decide +kernel
theorem dX6_ear_136 : decode cX6_ear 136 = .ok (.ireturn, 1) := by decide +kernel
theorem dX6_fewest_0 : decode cX6_fewest 0 = .ok (.iload_n 1, 1) := by decide +kernel
theorem dX6_fewest_1 : decode cX6_fewest 1 = .ok (.invokestatic 111, 3) := by decide +kernel
theorem dX6_fewest_4 : decode cX6_fewest 4 = .ok (.ifCond .ne 23, 3) := by decide +kernel
theorem dX6_fewest_7 : decode cX6_fewest 7 = .ok (.iload_n 2, 1) := by decide +kernel
theorem dX6_fewest_8 : decode cX6_fewest 8 = .ok (.iconst 1, 1) := by decide +kernel
theorem dX6_fewest_9 : decode cX6_fewest 9 = .ok (.bipush 9, 2) := by decide +kernel
theorem dX6_fewest_11 : decode cX6_fewest 11 = .ok (.invokestatic 63, 3) := by decide +kernel
theorem dX6_fewest_14 : decode cX6_fewest 14 = .ok (.ifCond .ne 13, 3) := by decide +kernel
theorem dX6_fewest_17 : decode cX6_fewest 17 = .ok (.iload_n 3, 1) := by decide +kernel
theorem dX6_fewest_18 : decode cX6_fewest 18 = .ok (.iconst 0, 1) := by decide +kernel
theorem dX6_fewest_19 : decode cX6_fewest 19 = .ok (.bipush 12, 2) := by decide +kernel
theorem dX6_fewest_21 : decode cX6_fewest 21 = .ok (.invokestatic 63, 3) := by decide +kernel
theorem dX6_fewest_24 : decode cX6_fewest 24 = .ok (.ifCond .eq 6, 3) := by decide +kernel
theorem dX6_fewest_27 : decode cX6_fewest 27 = .ok (.ldc 67, 2) := by decide +kernel
theorem dX6_fewest_29 : decode cX6_fewest 29 = .ok (.ireturn, 1) := by decide +kernel
theorem dX6_fewest_30 : decode cX6_fewest 30 = .ok (.iconst 1, 1) := by decide +kernel
theorem dX6_fewest_31 : decode cX6_fewest 31 = .ok (.aload_n 0, 1) := by decide +kernel
theorem dX6_fewest_32 : decode cX6_fewest 32 = .ok (.getfield 28, 3) := by decide +kernel
theorem dX6_fewest_35 : decode cX6_fewest 35 = .ok (.getfield 68, 3) := by decide +kernel
theorem dX6_fewest_38 : decode cX6_fewest 38 = .ok (.ishl, 1) := by decide +kernel
theorem dX6_fewest_39 : decode cX6_fewest 39 = .ok (.istore 4, 2) := by decide +kernel
theorem dX6_fewest_41 : decode cX6_fewest 41 = .ok (.iconst 0, 1) := by decide +kernel
theorem dX6_fewest_42 : decode cX6_fewest 42 = .ok (.istore 5, 2) := by decide +kernel
theorem dX6_fewest_44 : decode cX6_fewest 44 = .ok (.iload 5, 2) := by decide +kernel
theorem dX6_fewest_46 : decode cX6_fewest 46 = .ok (.aload_n 0, 1) := by decide +kernel
theorem dX6_fewest_47 : decode cX6_fewest 47 = .ok (.getfield 28, 3) := by decide +kernel
theorem dX6_fewest_50 : decode cX6_fewest 50 = .ok (.getfield 68, 3) := by decide +kernel
theorem dX6_fewest_53 : decode cX6_fewest 53 = .ok (.if_icmp .gt 66, 3) := by decide +kernel
theorem dX6_fewest_56 : decode cX6_fewest 56 = .ok (.iconst 0, 1) := by decide +kernel
theorem dX6_fewest_57 : decode cX6_fewest 57 = .ok (.istore 6, 2) := by decide +kernel
theorem dX6_fewest_59 : decode cX6_fewest 59 = .ok (.iload 6, 2) := by decide +kernel
theorem dX6_fewest_61 : decode cX6_fewest 61 = .ok (.iload 4, 2) := by decide +kernel
theorem dX6_fewest_63 : decode cX6_fewest 63 = .ok (.if_icmp .ge 50, 3) := by decide +kernel
theorem dX6_fewest_66 : decode cX6_fewest 66 = .ok (.iload 6, 2) := by decide +kernel
theorem dX6_fewest_68 : decode cX6_fewest 68 = .ok (.invokestatic 185, 3) := by decide +kernel
theorem dX6_fewest_71 : decode cX6_fewest 71 = .ok (.iload 5, 2) := by decide +kernel
theorem dX6_fewest_73 : decode cX6_fewest 73 = .ok (.if_icmp .ne 34, 3) := by decide +kernel
theorem dX6_fewest_76 : decode cX6_fewest 76 = .ok (.aload_n 0, 1) := by decide +kernel
theorem dX6_fewest_77 : decode cX6_fewest 77 = .ok (.iload 6, 2) := by decide +kernel
theorem dX6_fewest_79 : decode cX6_fewest 79 = .ok (.iload_n 1, 1) := by decide +kernel
theorem dX6_fewest_80 : decode cX6_fewest 80 = .ok (.iload_n 2, 1) := by decide +kernel
theorem dX6_fewest_81 : decode cX6_fewest 81 = .ok (.invokevirtual 182, 3) := by decide +kernel
theorem dX6_fewest_84 : decode cX6_fewest 84 = .ok (.aload_n 0, 1) := by decide +kernel
theorem dX6_fewest_85 : decode cX6_fewest 85 = .ok (.getfield 35, 3) := by decide +kernel
theorem dX6_fewest_88 : decode cX6_fewest 88 = .ok (.iload_n 3, 1) := by decide +kernel
theorem dX6_fewest_89 : decode cX6_fewest 89 = .ok (.invokevirtual 160, 3) := by decide +kernel
theorem dX6_fewest_92 : decode cX6_fewest 92 = .ok (.aload_n 0, 1) := by decide +kernel
theorem dX6_fewest_93 : decode cX6_fewest 93 = .ok (.getfield 35, 3) := by decide +kernel
theorem dX6_fewest_96 : decode cX6_fewest 96 = .ok (.iload_n 1, 1) := by decide +kernel
theorem dX6_fewest_97 : decode cX6_fewest 97 = .ok (.invokevirtual 131, 3) := by decide +kernel
theorem dX6_fewest_100 : decode cX6_fewest 100 = .ok (.iload_n 2, 1) := by decide +kernel
theorem dX6_fewest_101 : decode cX6_fewest 101 = .ok (.if_icmp .ne 6, 3) := by decide +kernel
theorem dX6_fewest_104 : decode cX6_fewest 104 = .ok (.iload 6, 2) := by decide +kernel
theorem dX6_fewest_106 : decode cX6_fewest 106 = .ok (.ireturn, 1) := by decide +kernel
theorem dX6_fewest_107 : decode cX6_fewest 107 = .ok (.iinc 6 1, 3) := by decide +kernel
theorem dX6_fewest_110 : decode cX6_fewest 110 = .ok (.goto (-51), 3) := by decide +kernel
theorem dX6_fewest_113 : decode cX6_fewest 113 = .ok (.iinc 5 1, 3) := by decide +kernel
theorem dX6_fewest_116 : decode cX6_fewest 116 = .ok (.goto (-72), 3) := by decide +kernel
theorem dX6_fewest_119 : decode cX6_fewest 119 = .ok (.ldc 181, 2) := by decide +kernel
theorem dX6_fewest_121 : decode cX6_fewest 121 = .ok (.ireturn, 1) := by decide +kernel
theorem dX6_house_0 : decode cX6_house 0 = .ok (.aload_n 0, 1) := by decide +kernel
theorem dX6_house_1 : decode cX6_house 1 = .ok (.iload_n 1, 1) := by decide +kernel
theorem dX6_house_2 : decode cX6_house 2 = .ok (.invokevirtual 77, 3) := by decide +kernel
theorem dX6_house_5 : decode cX6_house 5 = .ok (.ifCond .ne 22, 3) := by decide +kernel
theorem dX6_house_8 : decode cX6_house 8 = .ok (.iload_n 2, 1) := by decide +kernel
theorem dX6_house_9 : decode cX6_house 9 = .ok (.iconst 1, 1) := by decide +kernel
theorem dX6_house_10 : decode cX6_house 10 = .ok (.bipush 60, 2) := by decide +kernel
theorem dX6_house_12 : decode cX6_house 12 = .ok (.invokestatic 63, 3) := by decide +kernel
theorem dX6_house_15 : decode cX6_house 15 = .ok (.ifCond .ne 12, 3) := by decide +kernel
theorem dX6_house_18 : decode cX6_house 18 = .ok (.iload_n 3, 1) := by decide +kernel
theorem dX6_house_19 : decode cX6_house 19 = .ok (.iconst 0, 1) := by decide +kernel
theorem dX6_house_20 : decode cX6_house 20 = .ok (.iconst 1, 1) := by decide +kernel
theorem dX6_house_21 : decode cX6_house 21 = .ok (.invokestatic 63, 3) := by decide +kernel
theorem dX6_house_24 : decode cX6_house 24 = .ok (.ifCond .eq 6, 3) := by decide +kernel
theorem dX6_house_27 : decode cX6_house 27 = .ok (.ldc 67, 2) := by decide +kernel
theorem dX6_house_29 : decode cX6_house 29 = .ok (.ireturn, 1) := by decide +kernel
theorem dX6_house_30 : decode cX6_house 30 = .ok (.iconst 0, 1) := by decide +kernel
theorem dX6_house_31 : decode cX6_house 31 = .ok (.istore 4, 2) := by decide +kernel
theorem dX6_house_33 : decode cX6_house 33 = .ok (.iconst 0, 1) := by decide +kernel
theorem dX6_house_34 : decode cX6_house 34 = .ok (.istore 5, 2) := by decide +kernel
theorem dX6_house_36 : decode cX6_house 36 = .ok (.iconst 0, 1) := by decide +kernel
theorem dX6_house_37 : decode cX6_house 37 = .ok (.istore 6, 2) := by decide +kernel
theorem dX6_house_39 : decode cX6_house 39 = .ok (.iload 6, 2) := by decide +kernel
theorem dX6_house_41 : decode cX6_house 41 = .ok (.bipush 8, 2) := by decide +kernel
theorem dX6_house_43 : decode cX6_house 43 = .ok (.if_icmp .ge 69, 3) := by decide +kernel
theorem dX6_house_46 : decode cX6_house 46 = .ok (.aload_n 0, 1) := by decide +kernel
theorem dX6_house_47 : decode cX6_house 47 = .ok (.getfield 35, 3) := by decide +kernel
theorem dX6_house_50 : decode cX6_house 50 = .ok (.aload_n 0, 1) := by decide +kernel
theorem dX6_house_51 : decode cX6_house 51 = .ok (.getfield 28, 3) := by decide +kernel
theorem dX6_house_54 : decode cX6_house 54 = .ok (.invokevirtual 177, 3) := by decide +kernel
theorem dX6_house_57 : decode cX6_house 57 = .ok (.aload_n 0, 1) := by decide +kernel
theorem dX6_house_58 : decode cX6_house 58 = .ok (.getfield 35, 3) := by decide +kernel
theorem dX6_house_61 : decode cX6_house 61 = .ok (.getfield 83, 3) := by decide +kernel
theorem dX6_house_64 : decode cX6_house 64 = .ok (.iload_n 1, 1) := by decide +kernel
theorem dX6_house_65 : decode cX6_house 65 = .ok (.iload 6, 2) := by decide +kernel
theorem dX6_house_67 : decode cX6_house 67 = .ok (.iastore, 1) := by decide +kernel
theorem dX6_house_68 : decode cX6_house 68 = .ok (.aload_n 0, 1) := by decide +kernel
theorem dX6_house_69 : decode cX6_house 69 = .ok (.getfield 35, 3) := by decide +kernel
theorem dX6_house_72 : decode cX6_house 72 = .ok (.iload_n 2, 1) := by decide +kernel
theorem dX6_house_73 : decode cX6_house 73 = .ok (.invokevirtual 160, 3) := by decide +kernel
theorem dX6_house_76 : decode cX6_house 76 = .ok (.iload 6, 2) := by decide +kernel
theorem dX6_house_78 : decode cX6_house 78 = .ok (.ifCond .eq 15, 3) := by decide +kernel
theorem dX6_house_81 : decode cX6_house 81 = .ok (.aload_n 0, 1) := by decide +kernel
theorem dX6_house_82 : decode cX6_house 82 = .ok (.getfield 35, 3) := by decide +kernel
theorem dX6_house_85 : decode cX6_house 85 = .ok (.getfield 154, 3) := by decide +kernel
theorem dX6_house_88 : decode cX6_house 88 = .ok (.iload 5, 2) := by decide +kernel
theorem dX6_house_90 : decode cX6_house 90 = .ok (.if_icmp .le 16, 3) := by decide +kernel
theorem dX6_house_93 : decode cX6_house 93 = .ok (.iload 6, 2) := by decide +kernel
theorem dX6_house_95 : decode cX6_house 95 = .ok (.istore 4, 2) := by decide +kernel
theorem dX6_house_97 : decode cX6_house 97 = .ok (.aload_n 0, 1) := by decide +kernel
theorem dX6_house_98 : decode cX6_house 98 = .ok (.getfield 35, 3) := by decide +kernel
theorem dX6_house_101 : decode cX6_house 101 = .ok (.getfield 154, 3) := by decide +kernel
theorem dX6_house_104 : decode cX6_house 104 = .ok (.istore 5, 2) := by decide +kernel
theorem dX6_house_106 : decode cX6_house 106 = .ok (.iinc 6 1, 3) := by decide +kernel
theorem dX6_house_109 : decode cX6_house 109 = .ok (.goto (-70), 3) := by decide +kernel
theorem dX6_house_112 : decode cX6_house 112 = .ok (.iload_n 3, 1) := by decide +kernel
theorem dX6_house_113 : decode cX6_house 113 = .ok (.ifCond .ne 8, 3) := by decide +kernel
theorem dX6_house_116 : decode cX6_house 116 = .ok (.iload 4, 2) := by decide +kernel
theorem dX6_house_118 : decode cX6_house 118 = .ok (.goto 5, 3) := by decide +kernel
theorem dX6_house_121 : decode cX6_house 121 = .ok (.iload 5, 2) := by decide +kernel
theorem dX6_house_123 : decode cX6_house 123 = .ok (.ireturn, 1) := by decide +kernel
theorem dX6_becomes_0 : decode cX6_becomes 0 = .ok (.aload_n 0, 1) := by decide +kernel
theorem dX6_becomes_1 : decode cX6_becomes 1 = .ok (.iload_n 1, 1) := by decide +kernel
theorem dX6_becomes_2 : decode cX6_becomes 2 = .ok (.invokevirtual 77, 3) := by decide +kernel
theorem dX6_becomes_5 : decode cX6_becomes 5 = .ok (.ifCond .ne 22, 3) := by decide +kernel
theorem dX6_becomes_8 : decode cX6_becomes 8 = .ok (.iload_n 2, 1) := by decide +kernel
theorem dX6_becomes_9 : decode cX6_becomes 9 = .ok (.iconst 1, 1) := by decide +kernel
theorem dX6_becomes_10 : decode cX6_becomes 10 = .ok (.bipush 60, 2) := by decide +kernel
theorem dX6_becomes_12 : decode cX6_becomes 12 = .ok (.invokestatic 63, 3) := by decide +kernel
theorem dX6_becomes_15 : decode cX6_becomes 15 = .ok (.ifCond .ne 12, 3) := by decide +kernel
theorem dX6_becomes_18 : decode cX6_becomes 18 = .ok (.iload_n 3, 1) := by decide +kernel
theorem dX6_becomes_19 : decode cX6_becomes 19 = .ok (.iconst 0, 1) := by decide +kernel
theorem dX6_becomes_20 : decode cX6_becomes 20 = .ok (.iconst 1, 1) := by decide +kernel
theorem dX6_becomes_21 : decode cX6_becomes 21 = .ok (.invokestatic 63, 3) := by decide +kernel
theorem dX6_becomes_24 : decode cX6_becomes 24 = .ok (.ifCond .eq 6, 3) := by decide +kernel
theorem dX6_becomes_27 : decode cX6_becomes 27 = .ok (.ldc 67, 2) := by decide +kernel
theorem dX6_becomes_29 : decode cX6_becomes 29 = .ok (.ireturn, 1) := by decide +kernel
theorem dX6_becomes_30 : decode cX6_becomes 30 = .ok (.iconst 0, 1) := by decide +kernel
theorem dX6_becomes_31 : decode cX6_becomes 31 = .ok (.istore 4, 2) := by decide +kernel
theorem dX6_becomes_33 : decode cX6_becomes 33 = .ok (.iconst 0, 1) := by decide +kernel
theorem dX6_becomes_34 : decode cX6_becomes 34 = .ok (.istore 5, 2) := by decide +kernel
theorem dX6_becomes_36 : decode cX6_becomes 36 = .ok (.iconst 0, 1) := by decide +kernel
theorem dX6_becomes_37 : decode cX6_becomes 37 = .ok (.istore 6, 2) := by decide +kernel
theorem dX6_becomes_39 : decode cX6_becomes 39 = .ok (.iload 6, 2) := by decide +kernel
theorem dX6_becomes_41 : decode cX6_becomes 41 = .ok (.bipush 6, 2) := by decide +kernel
theorem dX6_becomes_43 : decode cX6_becomes 43 = .ok (.if_icmp .ge 69, 3) := by decide +kernel
theorem dX6_becomes_46 : decode cX6_becomes 46 = .ok (.aload_n 0, 1) := by decide +kernel
theorem dX6_becomes_47 : decode cX6_becomes 47 = .ok (.getfield 35, 3) := by decide +kernel
theorem dX6_becomes_50 : decode cX6_becomes 50 = .ok (.aload_n 0, 1) := by decide +kernel
theorem dX6_becomes_51 : decode cX6_becomes 51 = .ok (.getfield 28, 3) := by decide +kernel
theorem dX6_becomes_54 : decode cX6_becomes 54 = .ok (.invokevirtual 177, 3) := by decide +kernel
theorem dX6_becomes_57 : decode cX6_becomes 57 = .ok (.aload_n 0, 1) := by decide +kernel
theorem dX6_becomes_58 : decode cX6_becomes 58 = .ok (.getfield 35, 3) := by decide +kernel
theorem dX6_becomes_61 : decode cX6_becomes 61 = .ok (.getfield 80, 3) := by decide +kernel
theorem dX6_becomes_64 : decode cX6_becomes 64 = .ok (.iload_n 1, 1) := by decide +kernel
theorem dX6_becomes_65 : decode cX6_becomes 65 = .ok (.iload 6, 2) := by decide +kernel
theorem dX6_becomes_67 : decode cX6_becomes 67 = .ok (.iastore, 1) := by decide +kernel
theorem dX6_becomes_68 : decode cX6_becomes 68 = .ok (.aload_n 0, 1) := by decide +kernel
theorem dX6_becomes_69 : decode cX6_becomes 69 = .ok (.getfield 35, 3) := by decide +kernel
theorem dX6_becomes_72 : decode cX6_becomes 72 = .ok (.iload_n 2, 1) := by decide +kernel
theorem dX6_becomes_73 : decode cX6_becomes 73 = .ok (.invokevirtual 160, 3) := by decide +kernel
theorem dX6_becomes_76 : decode cX6_becomes 76 = .ok (.iload 6, 2) := by decide +kernel
theorem dX6_becomes_78 : decode cX6_becomes 78 = .ok (.ifCond .eq 15, 3) := by decide +kernel
theorem dX6_becomes_81 : decode cX6_becomes 81 = .ok (.aload_n 0, 1) := by decide +kernel
theorem dX6_becomes_82 : decode cX6_becomes 82 = .ok (.getfield 35, 3) := by decide +kernel
theorem dX6_becomes_85 : decode cX6_becomes 85 = .ok (.getfield 164, 3) := by decide +kernel
theorem dX6_becomes_88 : decode cX6_becomes 88 = .ok (.iload 5, 2) := by decide +kernel
theorem dX6_becomes_90 : decode cX6_becomes 90 = .ok (.if_icmp .ge 16, 3) := by decide +kernel
theorem dX6_becomes_93 : decode cX6_becomes 93 = .ok (.iload 6, 2) := by decide +kernel
theorem dX6_becomes_95 : decode cX6_becomes 95 = .ok (.istore 4, 2) := by decide +kernel
theorem dX6_becomes_97 : decode cX6_becomes 97 = .ok (.aload_n 0, 1) := by decide +kernel
theorem dX6_becomes_98 : decode cX6_becomes 98 = .ok (.getfield 35, 3) := by decide +kernel
theorem dX6_becomes_101 : decode cX6_becomes 101 = .ok (.getfield 164, 3) := by decide +kernel
theorem dX6_becomes_104 : decode cX6_becomes 104 = .ok (.istore 5, 2) := by decide +kernel
theorem dX6_becomes_106 : decode cX6_becomes 106 = .ok (.iinc 6 1, 3) := by decide +kernel
theorem dX6_becomes_109 : decode cX6_becomes 109 = .ok (.goto (-70), 3) := by decide +kernel
theorem dX6_becomes_112 : decode cX6_becomes 112 = .ok (.iload_n 3, 1) := by decide +kernel
theorem dX6_becomes_113 : decode cX6_becomes 113 = .ok (.ifCond .ne 8, 3) := by decide +kernel
theorem dX6_becomes_116 : decode cX6_becomes 116 = .ok (.iload 4, 2) := by decide +kernel
theorem dX6_becomes_118 : decode cX6_becomes 118 = .ok (.goto 5, 3) := by decide +kernel
theorem dX6_becomes_121 : decode cX6_becomes 121 = .ok (.iload 5, 2) := by decide +kernel
theorem dX6_becomes_123 : decode cX6_becomes 123 = .ok (.ireturn, 1) := by decide +kernel
theorem dX6_like_0 : decode cX6_like 0 = .ok (.iload_n 1, 1) := by decide +kernel
theorem dX6_like_1 : decode cX6_like 1 = .ok (.invokestatic 190, 3) := by decide +kernel
theorem dX6_like_4 : decode cX6_like 4 = .ok (.ifCond .ne 12, 3) := by decide +kernel
theorem dX6_like_7 : decode cX6_like 7 = .ok (.iload_n 2, 1) := by decide +kernel
theorem dX6_like_8 : decode cX6_like 8 = .ok (.iconst 0, 1) := by decide +kernel
theorem dX6_like_9 : decode cX6_like 9 = .ok (.iconst 1, 1) := by decide +kernel
theorem dX6_like_10 : decode cX6_like 10 = .ok (.invokestatic 63, 3) := by decide +kernel
theorem dX6_like_13 : decode cX6_like 13 = .ok (.ifCond .eq 6, 3) := by decide +kernel
theorem dX6_like_16 : decode cX6_like 16 = .ok (.ldc 67, 2) := by decide +kernel
theorem dX6_like_18 : decode cX6_like 18 = .ok (.ireturn, 1) := by decide +kernel
theorem dX6_like_19 : decode cX6_like 19 = .ok (.aload_n 0, 1) := by decide +kernel
theorem dX6_like_20 : decode cX6_like 20 = .ok (.getfield 40, 3) := by decide +kernel
theorem dX6_like_23 : decode cX6_like 23 = .ok (.iload_n 1, 1) := by decide +kernel
theorem dX6_like_24 : decode cX6_like 24 = .ok (.aaload, 1) := by decide +kernel
theorem dX6_like_25 : decode cX6_like 25 = .ok (.astore_n 3, 1) := by decide +kernel
theorem dX6_like_26 : decode cX6_like 26 = .ok (.aload_n 3, 1) := by decide +kernel
theorem dX6_like_27 : decode cX6_like 27 = .ok (.getfield 193, 3) := by decide +kernel
theorem dX6_like_30 : decode cX6_like 30 = .ok (.iconst (-1), 1) := by decide +kernel
theorem dX6_like_31 : decode cX6_like 31 = .ok (.if_icmp .ne 6, 3) := by decide +kernel
theorem dX6_like_34 : decode cX6_like 34 = .ok (.ldc 196, 2) := by decide +kernel
theorem dX6_like_36 : decode cX6_like 36 = .ok (.ireturn, 1) := by decide +kernel
theorem dX6_like_37 : decode cX6_like 37 = .ok (.iconst 0, 1) := by decide +kernel
theorem dX6_like_38 : decode cX6_like 38 = .ok (.istore 4, 2) := by decide +kernel
theorem dX6_like_40 : decode cX6_like 40 = .ok (.iload 4, 2) := by decide +kernel
theorem dX6_like_42 : decode cX6_like 42 = .ok (.bipush 6, 2) := by decide +kernel
theorem dX6_like_44 : decode cX6_like 44 = .ok (.if_icmp .ge 17, 3) := by decide +kernel
theorem dX6_like_47 : decode cX6_like 47 = .ok (.aload_n 0, 1) := by decide +kernel
theorem dX6_like_48 : decode cX6_like 48 = .ok (.getfield 56, 3) := by decide +kernel
theorem dX6_like_51 : decode cX6_like 51 = .ok (.iload 4, 2) := by decide +kernel
theorem dX6_like_53 : decode cX6_like 53 = .ok (.iconst 0, 1) := by decide +kernel
theorem dX6_like_54 : decode cX6_like 54 = .ok (.iastore, 1) := by decide +kernel
theorem dX6_like_55 : decode cX6_like 55 = .ok (.iinc 4 1, 3) := by decide +kernel
theorem dX6_like_58 : decode cX6_like 58 = .ok (.goto (-18), 3) := by decide +kernel
theorem dX6_like_61 : decode cX6_like 61 = .ok (.aload_n 0, 1) := by decide +kernel
theorem dX6_like_62 : decode cX6_like 62 = .ok (.getfield 35, 3) := by decide +kernel
theorem dX6_like_65 : decode cX6_like 65 = .ok (.aload_n 0, 1) := by decide +kernel
theorem dX6_like_66 : decode cX6_like 66 = .ok (.getfield 28, 3) := by decide +kernel
theorem dX6_like_69 : decode cX6_like 69 = .ok (.invokevirtual 177, 3) := by decide +kernel
theorem dX6_like_72 : decode cX6_like 72 = .ok (.iconst 0, 1) := by decide +kernel
theorem dX6_like_73 : decode cX6_like 73 = .ok (.istore 4, 2) := by decide +kernel
theorem dX6_like_75 : decode cX6_like 75 = .ok (.iload 4, 2) := by decide +kernel
theorem dX6_like_77 : decode cX6_like 77 = .ok (.aload_n 3, 1) := by decide +kernel
theorem dX6_like_78 : decode cX6_like 78 = .ok (.getfield 197, 3) := by decide +kernel
theorem dX6_like_81 : decode cX6_like 81 = .ok (.if_icmp .ge 37, 3) := by decide +kernel
theorem dX6_like_84 : decode cX6_like 84 = .ok (.aload_n 3, 1) := by decide +kernel
theorem dX6_like_85 : decode cX6_like 85 = .ok (.iload 4, 2) := by decide +kernel
theorem dX6_like_87 : decode cX6_like 87 = .ok (.invokevirtual 200, 3) := by decide +kernel
theorem dX6_like_90 : decode cX6_like 90 = .ok (.ifCond .eq 14, 3) := by decide +kernel
theorem dX6_like_93 : decode cX6_like 93 = .ok (.aload_n 0, 1) := by decide +kernel
theorem dX6_like_94 : decode cX6_like 94 = .ok (.aload_n 3, 1) := by decide +kernel
theorem dX6_like_95 : decode cX6_like 95 = .ok (.getfield 203, 3) := by decide +kernel
theorem dX6_like_98 : decode cX6_like 98 = .ok (.iload 4, 2) := by decide +kernel
theorem dX6_like_100 : decode cX6_like 100 = .ok (.iaload, 1) := by decide +kernel
theorem dX6_like_101 : decode cX6_like 101 = .ok (.invokevirtual 206, 3) := by decide +kernel
theorem dX6_like_104 : decode cX6_like 104 = .ok (.aload_n 0, 1) := by decide +kernel
theorem dX6_like_105 : decode cX6_like 105 = .ok (.getfield 35, 3) := by decide +kernel
theorem dX6_like_108 : decode cX6_like 108 = .ok (.iconst 1, 1) := by decide +kernel
theorem dX6_like_109 : decode cX6_like 109 = .ok (.invokevirtual 160, 3) := by decide +kernel
theorem dX6_like_112 : decode cX6_like 112 = .ok (.iinc 4 1, 3) := by decide +kernel
theorem dX6_like_115 : decode cX6_like 115 = .ok (.goto (-40), 3) := by decide +kernel
theorem dX6_like_118 : decode cX6_like 118 = .ok (.iconst 0, 1) := by decide +kernel
theorem dX6_like_119 : decode cX6_like 119 = .ok (.istore 4, 2) := by decide +kernel
theorem dX6_like_121 : decode cX6_like 121 = .ok (.iconst 1, 1) := by decide +kernel
theorem dX6_like_122 : decode cX6_like 122 = .ok (.istore 5, 2) := by decide +kernel
theorem dX6_like_124 : decode cX6_like 124 = .ok (.iload 5, 2) := by decide +kernel
theorem dX6_like_126 : decode cX6_like 126 = .ok (.bipush 6, 2) := by decide +kernel
theorem dX6_like_128 : decode cX6_like 128 = .ok (.if_icmp .ge 30, 3) := by decide +kernel
theorem dX6_like_131 : decode cX6_like 131 = .ok (.aload_n 0, 1) := by decide +kernel
theorem dX6_like_132 : decode cX6_like 132 = .ok (.getfield 56, 3) := by decide +kernel
theorem dX6_like_135 : decode cX6_like 135 = .ok (.iload 5, 2) := by decide +kernel
theorem dX6_like_137 : decode cX6_like 137 = .ok (.iaload, 1) := by decide +kernel
theorem dX6_like_138 : decode cX6_like 138 = .ok (.aload_n 0, 1) := by decide +kernel
theorem dX6_like_139 : decode cX6_like 139 = .ok (.getfield 56, 3) := by decide +kernel
theorem dX6_like_142 : decode cX6_like 142 = .ok (.iload 4, 2) := by decide +kernel
theorem dX6_like_144 : decode cX6_like 144 = .ok (.iaload, 1) := by decide +kernel
theorem dX6_like_145 : decode cX6_like 145 = .ok (.if_icmp .ge 7, 3) := by decide +kernel
theorem dX6_like_148 : decode cX6_like 148 = .ok (.iload 5, 2) := by decide +kernel
theorem dX6_like_150 : decode cX6_like 150 = .ok (.istore 4, 2) := by decide +kernel
theorem dX6_like_152 : decode cX6_like 152 = .ok (.iinc 5 1, 3) := by decide +kernel
theorem dX6_like_155 : decode cX6_like 155 = .ok (.goto (-31), 3) := by decide +kernel
theorem dX6_like_158 : decode cX6_like 158 = .ok (.iload_n 2, 1) := by decide +kernel
theorem dX6_like_159 : decode cX6_like 159 = .ok (.ifCond .ne 8, 3) := by decide +kernel
theorem dX6_like_162 : decode cX6_like 162 = .ok (.iload 4, 2) := by decide +kernel
theorem dX6_like_164 : decode cX6_like 164 = .ok (.goto 10, 3) := by decide +kernel
theorem dX6_like_167 : decode cX6_like 167 = .ok (.aload_n 0, 1) := by decide +kernel
theorem dX6_like_168 : decode cX6_like 168 = .ok (.getfield 56, 3) := by decide +kernel
theorem dX6_like_171 : decode cX6_like 171 = .ok (.iload 4, 2) := by decide +kernel
theorem dX6_like_173 : decode cX6_like 173 = .ok (.iaload, 1) := by decide +kernel
theorem dX6_like_174 : decode cX6_like 174 = .ok (.ireturn, 1) := by decide +kernel
theorem dX6_fee_0 : decode cX6_fee 0 = .ok (.aload_n 0, 1) := by decide +kernel
theorem dX6_fee_1 : decode cX6_fee 1 = .ok (.getfield 28, 3) := by decide +kernel
theorem dX6_fee_4 : decode cX6_fee 4 = .ok (.getfield 209, 3) := by decide +kernel
theorem dX6_fee_7 : decode cX6_fee 7 = .ok (.iconst 1, 1) := by decide +kernel
theorem dX6_fee_8 : decode cX6_fee 8 = .ok (.iaload, 1) := by decide +kernel
theorem dX6_fee_9 : decode cX6_fee 9 = .ok (.istore_n 1, 1) := by decide +kernel
theorem dX6_fee_10 : decode cX6_fee 10 = .ok (.iload_n 1, 1) := by decide +kernel
theorem dX6_fee_11 : decode cX6_fee 11 = .ok (.ifCond .ge 11, 3) := by decide +kernel
theorem dX6_fee_14 : decode cX6_fee 14 = .ok (.aload_n 0, 1) := by decide +kernel
theorem dX6_fee_15 : decode cX6_fee 15 = .ok (.getfield 28, 3) := by decide +kernel
theorem dX6_fee_18 : decode cX6_fee 18 = .ok (.getfield 154, 3) := by decide +kernel
theorem dX6_fee_21 : decode cX6_fee 21 = .ok (.ireturn, 1) := by decide +kernel
theorem dX6_fee_22 : decode cX6_fee 22 = .ok (.aload_n 0, 1) := by decide +kernel
theorem dX6_fee_23 : decode cX6_fee 23 = .ok (.getfield 10, 3) := by decide +kernel
theorem dX6_fee_26 : decode cX6_fee 26 = .ok (.getfield 212, 3) := by decide +kernel
theorem dX6_fee_29 : decode cX6_fee 29 = .ok (.iconst 4, 1) := by decide +kernel
theorem dX6_fee_30 : decode cX6_fee 30 = .ok (.aload_n 0, 1) := by decide +kernel
theorem dX6_fee_31 : decode cX6_fee 31 = .ok (.getfield 28, 3) := by decide +kernel
theorem dX6_fee_34 : decode cX6_fee 34 = .ok (.getfield 154, 3) := by decide +kernel
theorem dX6_fee_37 : decode cX6_fee 37 = .ok (.iastore, 1) := by decide +kernel
theorem dX6_fee_38 : decode cX6_fee 38 = .ok (.aload_n 0, 1) := by decide +kernel
theorem dX6_fee_39 : decode cX6_fee 39 = .ok (.getfield 10, 3) := by decide +kernel
theorem dX6_fee_42 : decode cX6_fee 42 = .ok (.getfield 212, 3) := by decide +kernel
theorem dX6_fee_45 : decode cX6_fee 45 = .ok (.iconst 5, 1) := by decide +kernel
theorem dX6_fee_46 : decode cX6_fee 46 = .ok (.aload_n 0, 1) := by decide +kernel
theorem dX6_fee_47 : decode cX6_fee 47 = .ok (.getfield 28, 3) := by decide +kernel
theorem dX6_fee_50 : decode cX6_fee 50 = .ok (.getfield 164, 3) := by decide +kernel
theorem dX6_fee_53 : decode cX6_fee 53 = .ok (.iastore, 1) := by decide +kernel
theorem dX6_fee_54 : decode cX6_fee 54 = .ok (.aload_n 0, 1) := by decide +kernel
theorem dX6_fee_55 : decode cX6_fee 55 = .ok (.getfield 10, 3) := by decide +kernel
theorem dX6_fee_58 : decode cX6_fee 58 = .ok (.iload_n 1, 1) := by decide +kernel
theorem dX6_fee_59 : decode cX6_fee 59 = .ok (.invokevirtual 215, 3) := by decide +kernel
theorem dX6_fee_62 : decode cX6_fee 62 = .ok (.ireturn, 1) := by decide +kernel
theorem dX6_fine_0 : decode cX6_fine 0 = .ok (.aload_n 0, 1) := by decide +kernel
theorem dX6_fine_1 : decode cX6_fine 1 = .ok (.iload_n 1, 1) := by decide +kernel
theorem dX6_fine_2 : decode cX6_fine 2 = .ok (.invokevirtual 77, 3) := by decide +kernel
theorem dX6_fine_5 : decode cX6_fine 5 = .ok (.ifCond .eq 6, 3) := by decide +kernel
theorem dX6_fine_8 : decode cX6_fine 8 = .ok (.ldc 67, 2) := by decide +kernel
theorem dX6_fine_10 : decode cX6_fine 10 = .ok (.ireturn, 1) := by decide +kernel
theorem dX6_fine_11 : decode cX6_fine 11 = .ok (.aload_n 0, 1) := by decide +kernel
theorem dX6_fine_12 : decode cX6_fine 12 = .ok (.getfield 28, 3) := by decide +kernel
theorem dX6_fine_15 : decode cX6_fine 15 = .ok (.getfield 209, 3) := by decide +kernel
theorem dX6_fine_18 : decode cX6_fine 18 = .ok (.iconst 2, 1) := by decide +kernel
theorem dX6_fine_19 : decode cX6_fine 19 = .ok (.iaload, 1) := by decide +kernel
theorem dX6_fine_20 : decode cX6_fine 20 = .ok (.istore_n 2, 1) := by decide +kernel
theorem dX6_fine_21 : decode cX6_fine 21 = .ok (.iload_n 2, 1) := by decide +kernel
theorem dX6_fine_22 : decode cX6_fine 22 = .ok (.ifCond .ge 13, 3) := by decide +kernel
theorem dX6_fine_25 : decode cX6_fine 25 = .ok (.aload_n 0, 1) := by decide +kernel
theorem dX6_fine_26 : decode cX6_fine 26 = .ok (.getfield 28, 3) := by decide +kernel
theorem dX6_fine_29 : decode cX6_fine 29 = .ok (.getfield 89, 3) := by decide +kernel
theorem dX6_fine_32 : decode cX6_fine 32 = .ok (.iload_n 1, 1) := by decide +kernel
theorem dX6_fine_33 : decode cX6_fine 33 = .ok (.iaload, 1) := by decide +kernel
theorem dX6_fine_34 : decode cX6_fine 34 = .ok (.ireturn, 1) := by decide +kernel
theorem dX6_fine_35 : decode cX6_fine 35 = .ok (.aload_n 0, 1) := by decide +kernel
theorem dX6_fine_36 : decode cX6_fine 36 = .ok (.getfield 10, 3) := by decide +kernel
theorem dX6_fine_39 : decode cX6_fine 39 = .ok (.getfield 212, 3) := by decide +kernel
theorem dX6_fine_42 : decode cX6_fine 42 = .ok (.iconst 0, 1) := by decide +kernel
theorem dX6_fine_43 : decode cX6_fine 43 = .ok (.aload_n 0, 1) := by decide +kernel
theorem dX6_fine_44 : decode cX6_fine 44 = .ok (.getfield 28, 3) := by decide +kernel
theorem dX6_fine_47 : decode cX6_fine 47 = .ok (.getfield 86, 3) := by decide +kernel
theorem dX6_fine_50 : decode cX6_fine 50 = .ok (.iload_n 1, 1) := by decide +kernel
theorem dX6_fine_51 : decode cX6_fine 51 = .ok (.iaload, 1) := by decide +kernel
theorem dX6_fine_52 : decode cX6_fine 52 = .ok (.iastore, 1) := by decide +kernel
theorem dX6_fine_53 : decode cX6_fine 53 = .ok (.aload_n 0, 1) := by decide +kernel
theorem dX6_fine_54 : decode cX6_fine 54 = .ok (.getfield 10, 3) := by decide +kernel
theorem dX6_fine_57 : decode cX6_fine 57 = .ok (.getfield 212, 3) := by decide +kernel
theorem dX6_fine_60 : decode cX6_fine 60 = .ok (.iconst 2, 1) := by decide +kernel
theorem dX6_fine_61 : decode cX6_fine 61 = .ok (.aload_n 0, 1) := by decide +kernel
theorem dX6_fine_62 : decode cX6_fine 62 = .ok (.getfield 28, 3) := by decide +kernel
theorem dX6_fine_65 : decode cX6_fine 65 = .ok (.getfield 89, 3) := by decide +kernel
theorem dX6_fine_68 : decode cX6_fine 68 = .ok (.iload_n 1, 1) := by decide +kernel
theorem dX6_fine_69 : decode cX6_fine 69 = .ok (.iaload, 1) := by decide +kernel
theorem dX6_fine_70 : decode cX6_fine 70 = .ok (.iastore, 1) := by decide +kernel
theorem dX6_fine_71 : decode cX6_fine 71 = .ok (.aload_n 0, 1) := by decide +kernel
theorem dX6_fine_72 : decode cX6_fine 72 = .ok (.getfield 10, 3) := by decide +kernel
theorem dX6_fine_75 : decode cX6_fine 75 = .ok (.iload_n 2, 1) := by decide +kernel
theorem dX6_fine_76 : decode cX6_fine 76 = .ok (.invokevirtual 215, 3) := by decide +kernel
theorem dX6_fine_79 : decode cX6_fine 79 = .ok (.ireturn, 1) := by decide +kernel
theorem dX6_feed_0 : decode cX6_feed 0 = .ok (.aload_n 0, 1) := by decide +kernel
theorem dX6_feed_1 : decode cX6_feed 1 = .ok (.getfield 19, 3) := by decide +kernel
theorem dX6_feed_4 : decode cX6_feed 4 = .ok (.getfield 218, 3) := by decide +kernel
theorem dX6_feed_7 : decode cX6_feed 7 = .ok (.bipush 12, 2) := by decide +kernel
theorem dX6_feed_9 : decode cX6_feed 9 = .ok (.iadd, 1) := by decide +kernel
theorem dX6_feed_10 : decode cX6_feed 10 = .ok (.bipush 96, 2) := by decide +kernel
theorem dX6_feed_12 : decode cX6_feed 12 = .ok (.if_icmp .le 6, 3) := by decide +kernel
theorem dX6_feed_15 : decode cX6_feed 15 = .ok (.ldc 72, 2) := by decide +kernel
theorem dX6_feed_17 : decode cX6_feed 17 = .ok (.ireturn, 1) := by decide +kernel
theorem dX6_feed_18 : decode cX6_feed 18 = .ok (.aload_n 0, 1) := by decide +kernel
theorem dX6_feed_19 : decode cX6_feed 19 = .ok (.getfield 19, 3) := by decide +kernel
theorem dX6_feed_22 : decode cX6_feed 22 = .ok (.iload_n 1, 1) := by decide +kernel
theorem dX6_feed_23 : decode cX6_feed 23 = .ok (.invokevirtual 221, 3) := by decide +kernel
theorem dX6_feed_26 : decode cX6_feed 26 = .ok (.aload_n 0, 1) := by decide +kernel
theorem dX6_feed_27 : decode cX6_feed 27 = .ok (.getfield 19, 3) := by decide +kernel
theorem dX6_feed_30 : decode cX6_feed 30 = .ok (.iload_n 2, 1) := by decide +kernel
theorem dX6_feed_31 : decode cX6_feed 31 = .ok (.invokevirtual 221, 3) := by decide +kernel
theorem dX6_feed_34 : decode cX6_feed 34 = .ok (.aload_n 0, 1) := by decide +kernel
theorem dX6_feed_35 : decode cX6_feed 35 = .ok (.getfield 19, 3) := by decide +kernel
theorem dX6_feed_38 : decode cX6_feed 38 = .ok (.iload_n 3, 1) := by decide +kernel
theorem dX6_feed_39 : decode cX6_feed 39 = .ok (.invokevirtual 221, 3) := by decide +kernel
theorem dX6_feed_42 : decode cX6_feed 42 = .ok (.aload_n 0, 1) := by decide +kernel
theorem dX6_feed_43 : decode cX6_feed 43 = .ok (.getfield 19, 3) := by decide +kernel
theorem dX6_feed_46 : decode cX6_feed 46 = .ok (.getfield 218, 3) := by decide +kernel
theorem dX6_feed_49 : decode cX6_feed 49 = .ok (.ireturn, 1) := by decide +kernel
theorem dX6_trim_0 : decode cX6_trim 0 = .ok (.iload_n 1, 1) := by decide +kernel
theorem dX6_trim_1 : decode cX6_trim 1 = .ok (.iconst 0, 1) := by decide +kernel
theorem dX6_trim_2 : decode cX6_trim 2 = .ok (.aload_n 0, 1) := by decide +kernel
theorem dX6_trim_3 : decode cX6_trim 3 = .ok (.getfield 19, 3) := by decide +kernel
theorem dX6_trim_6 : decode cX6_trim 6 = .ok (.getfield 218, 3) := by decide +kernel
theorem dX6_trim_9 : decode cX6_trim 9 = .ok (.invokestatic 63, 3) := by decide +kernel
theorem dX6_trim_12 : decode cX6_trim 12 = .ok (.ifCond .eq 6, 3) := by decide +kernel
theorem dX6_trim_15 : decode cX6_trim 15 = .ok (.ldc 67, 2) := by decide +kernel
theorem dX6_trim_17 : decode cX6_trim 17 = .ok (.ireturn, 1) := by decide +kernel
theorem dX6_trim_18 : decode cX6_trim 18 = .ok (.aload_n 0, 1) := by decide +kernel
theorem dX6_trim_19 : decode cX6_trim 19 = .ok (.getfield 19, 3) := by decide +kernel
theorem dX6_trim_22 : decode cX6_trim 22 = .ok (.iload_n 1, 1) := by decide +kernel
theorem dX6_trim_23 : decode cX6_trim 23 = .ok (.putfield 218, 3) := by decide +kernel
theorem dX6_trim_26 : decode cX6_trim 26 = .ok (.iload_n 1, 1) := by decide +kernel
theorem dX6_trim_27 : decode cX6_trim 27 = .ok (.ireturn, 1) := by decide +kernel
theorem dX6_text_0 : decode cX6_text 0 = .ok (.aload_n 0, 1) := by decide +kernel
theorem dX6_text_1 : decode cX6_text 1 = .ok (.getfield 19, 3) := by decide +kernel
theorem dX6_text_4 : decode cX6_text 4 = .ok (.invokevirtual 224, 3) := by decide +kernel
theorem dX6_text_7 : decode cX6_text 7 = .ok (.istore_n 1, 1) := by decide +kernel
theorem dX6_text_8 : decode cX6_text 8 = .ok (.aload_n 0, 1) := by decide +kernel
theorem dX6_text_9 : decode cX6_text 9 = .ok (.getfield 19, 3) := by decide +kernel
theorem dX6_text_12 : decode cX6_text 12 = .ok (.iconst 0, 1) := by decide +kernel
theorem dX6_text_13 : decode cX6_text 13 = .ok (.putfield 218, 3) := by decide +kernel
theorem dX6_text_16 : decode cX6_text 16 = .ok (.iload_n 1, 1) := by decide +kernel
theorem dX6_text_17 : decode cX6_text 17 = .ok (.ifCond .lt 8, 3) := by decide +kernel
theorem dX6_text_20 : decode cX6_text 20 = .ok (.bipush (-100), 2) := by decide +kernel
theorem dX6_text_22 : decode cX6_text 22 = .ok (.iload_n 1, 1) := by decide +kernel
theorem dX6_text_23 : decode cX6_text 23 = .ok (.isub, 1) := by decide +kernel
theorem dX6_text_24 : decode cX6_text 24 = .ok (.ireturn, 1) := by decide +kernel
theorem dX6_text_25 : decode cX6_text 25 = .ok (.aload_n 0, 1) := by decide +kernel
theorem dX6_text_26 : decode cX6_text 26 = .ok (.getfield 28, 3) := by decide +kernel
theorem dX6_text_29 : decode cX6_text 29 = .ok (.getfield 227, 3) := by decide +kernel
theorem dX6_text_32 : decode cX6_text 32 = .ok (.istore_n 2, 1) := by decide +kernel
theorem dX6_text_33 : decode cX6_text 33 = .ok (.iload_n 2, 1) := by decide +kernel
theorem dX6_text_34 : decode cX6_text 34 = .ok (.bipush 14, 2) := by decide +kernel
theorem dX6_text_36 : decode cX6_text 36 = .ok (.if_icmp .lt 6, 3) := by decide +kernel
theorem dX6_text_39 : decode cX6_text 39 = .ok (.ldc 72, 2) := by decide +kernel
theorem dX6_text_41 : decode cX6_text 41 = .ok (.ireturn, 1) := by decide +kernel
theorem dX6_text_42 : decode cX6_text 42 = .ok (.aload_n 0, 1) := by decide +kernel
theorem dX6_text_43 : decode cX6_text 43 = .ok (.getfield 10, 3) := by decide +kernel
theorem dX6_text_46 : decode cX6_text 46 = .ok (.getfield 230, 3) := by decide +kernel
theorem dX6_text_49 : decode cX6_text 49 = .ok (.iload_n 2, 1) := by decide +kernel
theorem dX6_text_50 : decode cX6_text 50 = .ok (.aaload, 1) := by decide +kernel
theorem dX6_text_51 : decode cX6_text 51 = .ok (.aload_n 0, 1) := by decide +kernel
theorem dX6_text_52 : decode cX6_text 52 = .ok (.getfield 19, 3) := by decide +kernel
theorem dX6_text_55 : decode cX6_text 55 = .ok (.getfield 233, 3) := by decide +kernel
theorem dX6_text_58 : decode cX6_text 58 = .ok (.invokevirtual 237, 3) := by decide +kernel
theorem dX6_text_61 : decode cX6_text 61 = .ok (.aload_n 0, 1) := by decide +kernel
theorem dX6_text_62 : decode cX6_text 62 = .ok (.getfield 28, 3) := by decide +kernel
theorem dX6_text_65 : decode cX6_text 65 = .ok (.getfield 209, 3) := by decide +kernel
theorem dX6_text_68 : decode cX6_text 68 = .ok (.aload_n 0, 1) := by decide +kernel
theorem dX6_text_69 : decode cX6_text 69 = .ok (.getfield 19, 3) := by decide +kernel
theorem dX6_text_72 : decode cX6_text 72 = .ok (.getfield 233, 3) := by decide +kernel
theorem dX6_text_75 : decode cX6_text 75 = .ok (.getfield 242, 3) := by decide +kernel
theorem dX6_text_78 : decode cX6_text 78 = .ok (.iload_n 2, 1) := by decide +kernel
theorem dX6_text_79 : decode cX6_text 79 = .ok (.iastore, 1) := by decide +kernel
theorem dX6_text_80 : decode cX6_text 80 = .ok (.aload_n 0, 1) := by decide +kernel
theorem dX6_text_81 : decode cX6_text 81 = .ok (.getfield 28, 3) := by decide +kernel
theorem dX6_text_84 : decode cX6_text 84 = .ok (.iload_n 2, 1) := by decide +kernel
theorem dX6_text_85 : decode cX6_text 85 = .ok (.iconst 1, 1) := by decide +kernel
theorem dX6_text_86 : decode cX6_text 86 = .ok (.iadd, 1) := by decide +kernel
theorem dX6_text_87 : decode cX6_text 87 = .ok (.putfield 227, 3) := by decide +kernel
theorem dX6_text_90 : decode cX6_text 90 = .ok (.iload_n 2, 1) := by decide +kernel
theorem dX6_text_91 : decode cX6_text 91 = .ok (.ireturn, 1) := by decide +kernel
theorem dX6_textTold_0 : decode cX6_textTold 0 = .ok (.iload_n 1, 1) := by decide +kernel
theorem dX6_textTold_1 : decode cX6_textTold 1 = .ok (.iconst 0, 1) := by decide +kernel
theorem dX6_textTold_2 : decode cX6_textTold 2 = .ok (.aload_n 0, 1) := by decide +kernel
theorem dX6_textTold_3 : decode cX6_textTold 3 = .ok (.getfield 28, 3) := by decide +kernel
theorem dX6_textTold_6 : decode cX6_textTold 6 = .ok (.getfield 227, 3) := by decide +kernel
theorem dX6_textTold_9 : decode cX6_textTold 9 = .ok (.iconst 1, 1) := by decide +kernel
theorem dX6_textTold_10 : decode cX6_textTold 10 = .ok (.isub, 1) := by decide +kernel
theorem dX6_textTold_11 : decode cX6_textTold 11 = .ok (.invokestatic 63, 3) := by decide +kernel
theorem dX6_textTold_14 : decode cX6_textTold 14 = .ok (.ifCond .eq 6, 3) := by decide +kernel
theorem dX6_textTold_17 : decode cX6_textTold 17 = .ok (.ldc 67, 2) := by decide +kernel
theorem dX6_textTold_19 : decode cX6_textTold 19 = .ok (.ireturn, 1) := by decide +kernel
theorem dX6_textTold_20 : decode cX6_textTold 20 = .ok (.iload_n 2, 1) := by decide +kernel
theorem dX6_textTold_21 : decode cX6_textTold 21 = .ok (.lookupswitch 53 #[(0, 27), (1, 40)], 27) := by decide +kernel
theorem dX6_textTold_48 : decode cX6_textTold 48 = .ok (.aload_n 0, 1) := by decide +kernel
theorem dX6_textTold_49 : decode cX6_textTold 49 = .ok (.getfield 10, 3) := by decide +kernel
theorem dX6_textTold_52 : decode cX6_textTold 52 = .ok (.getfield 230, 3) := by decide +kernel
theorem dX6_textTold_55 : decode cX6_textTold 55 = .ok (.iload_n 1, 1) := by decide +kernel
theorem dX6_textTold_56 : decode cX6_textTold 56 = .ok (.aaload, 1) := by decide +kernel
theorem dX6_textTold_57 : decode cX6_textTold 57 = .ok (.getfield 242, 3) := by decide +kernel
theorem dX6_textTold_60 : decode cX6_textTold 60 = .ok (.ireturn, 1) := by decide +kernel
theorem dX6_textTold_61 : decode cX6_textTold 61 = .ok (.aload_n 0, 1) := by decide +kernel
theorem dX6_textTold_62 : decode cX6_textTold 62 = .ok (.getfield 10, 3) := by decide +kernel
theorem dX6_textTold_65 : decode cX6_textTold 65 = .ok (.getfield 230, 3) := by decide +kernel
theorem dX6_textTold_68 : decode cX6_textTold 68 = .ok (.iload_n 1, 1) := by decide +kernel
theorem dX6_textTold_69 : decode cX6_textTold 69 = .ok (.aaload, 1) := by decide +kernel
theorem dX6_textTold_70 : decode cX6_textTold 70 = .ok (.getfield 245, 3) := by decide +kernel
theorem dX6_textTold_73 : decode cX6_textTold 73 = .ok (.ireturn, 1) := by decide +kernel
theorem dX6_textTold_74 : decode cX6_textTold 74 = .ok (.ldc 67, 2) := by decide +kernel
theorem dX6_textTold_76 : decode cX6_textTold 76 = .ok (.ireturn, 1) := by decide +kernel
theorem dX6_why_0 : decode cX6_why 0 = .ok (.iload_n 1, 1) := by decide +kernel
theorem dX6_why_1 : decode cX6_why 1 = .ok (.iconst 0, 1) := by decide +kernel
theorem dX6_why_2 : decode cX6_why 2 = .ok (.iconst 2, 1) := by decide +kernel
theorem dX6_why_3 : decode cX6_why 3 = .ok (.invokestatic 63, 3) := by decide +kernel
theorem dX6_why_6 : decode cX6_why 6 = .ok (.ifCond .eq 6, 3) := by decide +kernel
theorem dX6_why_9 : decode cX6_why 9 = .ok (.ldc 67, 2) := by decide +kernel
theorem dX6_why_11 : decode cX6_why 11 = .ok (.ireturn, 1) := by decide +kernel
theorem dX6_why_12 : decode cX6_why 12 = .ok (.aload_n 0, 1) := by decide +kernel
theorem dX6_why_13 : decode cX6_why 13 = .ok (.getfield 28, 3) := by decide +kernel
theorem dX6_why_16 : decode cX6_why 16 = .ok (.getfield 209, 3) := by decide +kernel
theorem dX6_why_19 : decode cX6_why 19 = .ok (.iload_n 1, 1) := by decide +kernel
theorem dX6_why_20 : decode cX6_why 20 = .ok (.iaload, 1) := by decide +kernel
theorem dX6_why_21 : decode cX6_why 21 = .ok (.ifCond .ge 8, 3) := by decide +kernel
theorem dX6_why_24 : decode cX6_why 24 = .ok (.ldc 181, 2) := by decide +kernel
theorem dX6_why_26 : decode cX6_why 26 = .ok (.goto 12, 3) := by decide +kernel
theorem dX6_why_29 : decode cX6_why 29 = .ok (.aload_n 0, 1) := by decide +kernel
theorem dX6_why_30 : decode cX6_why 30 = .ok (.getfield 28, 3) := by decide +kernel
theorem dX6_why_33 : decode cX6_why 33 = .ok (.getfield 209, 3) := by decide +kernel
theorem dX6_why_36 : decode cX6_why 36 = .ok (.iload_n 1, 1) := by decide +kernel
theorem dX6_why_37 : decode cX6_why 37 = .ok (.iaload, 1) := by decide +kernel
theorem dX6_why_38 : decode cX6_why 38 = .ok (.ireturn, 1) := by decide +kernel
theorem dX6_sheet_0 : decode cX6_sheet 0 = .ok (.iload_n 1, 1) := by decide +kernel
theorem dX6_sheet_1 : decode cX6_sheet 1 = .ok (.invokestatic 190, 3) := by decide +kernel
theorem dX6_sheet_4 : decode cX6_sheet 4 = .ok (.ifCond .ne 12, 3) := by decide +kernel
theorem dX6_sheet_7 : decode cX6_sheet 7 = .ok (.iload_n 2, 1) := by decide +kernel
theorem dX6_sheet_8 : decode cX6_sheet 8 = .ok (.iconst (-1), 1) := by decide +kernel
theorem dX6_sheet_9 : decode cX6_sheet 9 = .ok (.iconst 1, 1) := by decide +kernel
theorem dX6_sheet_10 : decode cX6_sheet 10 = .ok (.invokestatic 63, 3) := by decide +kernel
theorem dX6_sheet_13 : decode cX6_sheet 13 = .ok (.ifCond .eq 6, 3) := by decide +kernel
theorem dX6_sheet_16 : decode cX6_sheet 16 = .ok (.ldc 67, 2) := by decide +kernel
theorem dX6_sheet_18 : decode cX6_sheet 18 = .ok (.ireturn, 1) := by decide +kernel
theorem dX6_sheet_19 : decode cX6_sheet 19 = .ok (.iload_n 2, 1) := by decide +kernel
theorem dX6_sheet_20 : decode cX6_sheet 20 = .ok (.iconst (-1), 1) := by decide +kernel
theorem dX6_sheet_21 : decode cX6_sheet 21 = .ok (.if_icmp .ne 16, 3) := by decide +kernel
theorem dX6_sheet_24 : decode cX6_sheet 24 = .ok (.aload_n 0, 1) := by decide +kernel
theorem dX6_sheet_25 : decode cX6_sheet 25 = .ok (.getfield 40, 3) := by decide +kernel
theorem dX6_sheet_28 : decode cX6_sheet 28 = .ok (.iload_n 1, 1) := by decide +kernel
theorem dX6_sheet_29 : decode cX6_sheet 29 = .ok (.aaload, 1) := by decide +kernel
theorem dX6_sheet_30 : decode cX6_sheet 30 = .ok (.iconst (-1), 1) := by decide +kernel
theorem dX6_sheet_31 : decode cX6_sheet 31 = .ok (.iconst 0, 1) := by decide +kernel
theorem dX6_sheet_32 : decode cX6_sheet 32 = .ok (.invokevirtual 248, 3) := by decide +kernel
theorem dX6_sheet_35 : decode cX6_sheet 35 = .ok (.iconst 0, 1) := by decide +kernel
theorem dX6_sheet_36 : decode cX6_sheet 36 = .ok (.ireturn, 1) := by decide +kernel
theorem dX6_sheet_37 : decode cX6_sheet 37 = .ok (.iload_n 3, 1) := by decide +kernel
theorem dX6_sheet_38 : decode cX6_sheet 38 = .ok (.bipush 24, 2) := by decide +kernel
theorem dX6_sheet_40 : decode cX6_sheet 40 = .ok (.if_icmp .le 6, 3) := by decide +kernel
theorem dX6_sheet_43 : decode cX6_sheet 43 = .ok (.ldc 67, 2) := by decide +kernel
theorem dX6_sheet_45 : decode cX6_sheet 45 = .ok (.ireturn, 1) := by decide +kernel
theorem dX6_sheet_46 : decode cX6_sheet 46 = .ok (.iload_n 3, 1) := by decide +kernel
theorem dX6_sheet_47 : decode cX6_sheet 47 = .ok (.ifCond .ge 6, 3) := by decide +kernel
theorem dX6_sheet_50 : decode cX6_sheet 50 = .ok (.ldc 252, 2) := by decide +kernel
theorem dX6_sheet_52 : decode cX6_sheet 52 = .ok (.ireturn, 1) := by decide +kernel
theorem dX6_sheet_53 : decode cX6_sheet 53 = .ok (.aload_n 0, 1) := by decide +kernel
theorem dX6_sheet_54 : decode cX6_sheet 54 = .ok (.getfield 40, 3) := by decide +kernel
theorem dX6_sheet_57 : decode cX6_sheet 57 = .ok (.iload_n 1, 1) := by decide +kernel
theorem dX6_sheet_58 : decode cX6_sheet 58 = .ok (.aaload, 1) := by decide +kernel
theorem dX6_sheet_59 : decode cX6_sheet 59 = .ok (.iload_n 2, 1) := by decide +kernel
theorem dX6_sheet_60 : decode cX6_sheet 60 = .ok (.iload_n 3, 1) := by decide +kernel
theorem dX6_sheet_61 : decode cX6_sheet 61 = .ok (.invokevirtual 248, 3) := by decide +kernel
theorem dX6_sheet_64 : decode cX6_sheet 64 = .ok (.iload_n 3, 1) := by decide +kernel
theorem dX6_sheet_65 : decode cX6_sheet 65 = .ok (.ireturn, 1) := by decide +kernel
theorem dX6_mark_0 : decode cX6_mark 0 = .ok (.iload_n 1, 1) := by decide +kernel
theorem dX6_mark_1 : decode cX6_mark 1 = .ok (.invokestatic 190, 3) := by decide +kernel
theorem dX6_mark_4 : decode cX6_mark 4 = .ok (.ifCond .eq 6, 3) := by decide +kernel
theorem dX6_mark_7 : decode cX6_mark 7 = .ok (.ldc 67, 2) := by decide +kernel
theorem dX6_mark_9 : decode cX6_mark 9 = .ok (.ireturn, 1) := by decide +kernel
theorem dX6_mark_10 : decode cX6_mark 10 = .ok (.aload_n 0, 1) := by decide +kernel
theorem dX6_mark_11 : decode cX6_mark 11 = .ok (.getfield 40, 3) := by decide +kernel
theorem dX6_mark_14 : decode cX6_mark 14 = .ok (.iload_n 1, 1) := by decide +kernel
theorem dX6_mark_15 : decode cX6_mark 15 = .ok (.aaload, 1) := by decide +kernel
theorem dX6_mark_16 : decode cX6_mark 16 = .ok (.astore 4, 2) := by decide +kernel
theorem dX6_mark_18 : decode cX6_mark 18 = .ok (.aload 4, 2) := by decide +kernel
theorem dX6_mark_20 : decode cX6_mark 20 = .ok (.getfield 193, 3) := by decide +kernel
theorem dX6_mark_23 : decode cX6_mark 23 = .ok (.iconst (-1), 1) := by decide +kernel
theorem dX6_mark_24 : decode cX6_mark 24 = .ok (.if_icmp .ne 6, 3) := by decide +kernel
theorem dX6_mark_27 : decode cX6_mark 27 = .ok (.ldc 196, 2) := by decide +kernel
theorem dX6_mark_29 : decode cX6_mark 29 = .ok (.ireturn, 1) := by decide +kernel
theorem dX6_mark_30 : decode cX6_mark 30 = .ok (.iload_n 2, 1) := by decide +kernel
theorem dX6_mark_31 : decode cX6_mark 31 = .ok (.iconst 0, 1) := by decide +kernel
theorem dX6_mark_32 : decode cX6_mark 32 = .ok (.aload 4, 2) := by decide +kernel
theorem dX6_mark_34 : decode cX6_mark 34 = .ok (.getfield 197, 3) := by decide +kernel
theorem dX6_mark_37 : decode cX6_mark 37 = .ok (.iconst 1, 1) := by decide +kernel
theorem dX6_mark_38 : decode cX6_mark 38 = .ok (.isub, 1) := by decide +kernel
theorem dX6_mark_39 : decode cX6_mark 39 = .ok (.invokestatic 63, 3) := by decide +kernel
theorem dX6_mark_42 : decode cX6_mark 42 = .ok (.ifCond .eq 6, 3) := by decide +kernel
theorem dX6_mark_45 : decode cX6_mark 45 = .ok (.ldc 253, 2) := by decide +kernel
theorem dX6_mark_47 : decode cX6_mark 47 = .ok (.ireturn, 1) := by decide +kernel
theorem dX6_mark_48 : decode cX6_mark 48 = .ok (.aload 4, 2) := by decide +kernel
theorem dX6_mark_50 : decode cX6_mark 50 = .ok (.getfield 193, 3) := by decide +kernel
theorem dX6_mark_53 : decode cX6_mark 53 = .ok (.ifCond .ne 23, 3) := by decide +kernel
theorem dX6_mark_56 : decode cX6_mark 56 = .ok (.iload_n 3, 1) := by decide +kernel
theorem dX6_mark_57 : decode cX6_mark 57 = .ok (.ldc 181, 2) := by decide +kernel
theorem dX6_mark_59 : decode cX6_mark 59 = .ok (.if_icmp .ne 6, 3) := by decide +kernel
theorem dX6_mark_62 : decode cX6_mark 62 = .ok (.ldc 106, 2) := by decide +kernel
theorem dX6_mark_64 : decode cX6_mark 64 = .ok (.ireturn, 1) := by decide +kernel
theorem dX6_mark_65 : decode cX6_mark 65 = .ok (.aload 4, 2) := by decide +kernel
theorem dX6_mark_67 : decode cX6_mark 67 = .ok (.getfield 203, 3) := by decide +kernel
theorem dX6_mark_70 : decode cX6_mark 70 = .ok (.iload_n 2, 1) := by decide +kernel
theorem dX6_mark_71 : decode cX6_mark 71 = .ok (.iload_n 3, 1) := by decide +kernel
theorem dX6_mark_72 : decode cX6_mark 72 = .ok (.i2s, 1) := by decide +kernel
theorem dX6_mark_73 : decode cX6_mark 73 = .ok (.iastore, 1) := by decide +kernel
theorem dX6_mark_74 : decode cX6_mark 74 = .ok (.iconst 1, 1) := by decide +kernel
theorem dX6_mark_75 : decode cX6_mark 75 = .ok (.ireturn, 1) := by decide +kernel
theorem dX6_mark_76 : decode cX6_mark 76 = .ok (.iload_n 3, 1) := by decide +kernel
theorem dX6_mark_77 : decode cX6_mark 77 = .ok (.ldc 181, 2) := by decide +kernel
theorem dX6_mark_79 : decode cX6_mark 79 = .ok (.if_icmp .eq 17, 3) := by decide +kernel
theorem dX6_mark_82 : decode cX6_mark 82 = .ok (.iload_n 3, 1) := by decide +kernel
theorem dX6_mark_83 : decode cX6_mark 83 = .ok (.ldc 254, 2) := by decide +kernel
theorem dX6_mark_85 : decode cX6_mark 85 = .ok (.ldc 255, 2) := by decide +kernel
theorem dX6_mark_87 : decode cX6_mark 87 = .ok (.invokestatic 63, 3) := by decide +kernel
theorem dX6_mark_90 : decode cX6_mark 90 = .ok (.ifCond .eq 6, 3) := by decide +kernel
theorem dX6_mark_93 : decode cX6_mark 93 = .ok (.ldc 67, 2) := by decide +kernel
theorem dX6_mark_95 : decode cX6_mark 95 = .ok (.ireturn, 1) := by decide +kernel
theorem dX6_mark_96 : decode cX6_mark 96 = .ok (.aload 4, 2) := by decide +kernel
theorem dX6_mark_98 : decode cX6_mark 98 = .ok (.getfield 203, 3) := by decide +kernel
theorem dX6_mark_101 : decode cX6_mark 101 = .ok (.iload_n 2, 1) := by decide +kernel
theorem dX6_mark_102 : decode cX6_mark 102 = .ok (.iload_n 3, 1) := by decide +kernel
theorem dX6_mark_103 : decode cX6_mark 103 = .ok (.iastore, 1) := by decide +kernel
theorem dX6_mark_104 : decode cX6_mark 104 = .ok (.iconst 1, 1) := by decide +kernel
theorem dX6_mark_105 : decode cX6_mark 105 = .ok (.ireturn, 1) := by decide +kernel
theorem dX6_pour_0 : decode cX6_pour 0 = .ok (.iload_n 1, 1) := by decide +kernel
theorem dX6_pour_1 : decode cX6_pour 1 = .ok (.invokestatic 190, 3) := by decide +kernel
theorem dX6_pour_4 : decode cX6_pour 4 = .ok (.ifCond .eq 6, 3) := by decide +kernel
theorem dX6_pour_7 : decode cX6_pour 7 = .ok (.ldc 67, 2) := by decide +kernel
theorem dX6_pour_9 : decode cX6_pour 9 = .ok (.ireturn, 1) := by decide +kernel
theorem dX6_pour_10 : decode cX6_pour 10 = .ok (.aload_n 0, 1) := by decide +kernel
theorem dX6_pour_11 : decode cX6_pour 11 = .ok (.getfield 40, 3) := by decide +kernel
theorem dX6_pour_14 : decode cX6_pour 14 = .ok (.iload_n 1, 1) := by decide +kernel
theorem dX6_pour_15 : decode cX6_pour 15 = .ok (.aaload, 1) := by decide +kernel
theorem dX6_pour_16 : decode cX6_pour 16 = .ok (.astore_n 2, 1) := by decide +kernel
theorem dX6_pour_17 : decode cX6_pour 17 = .ok (.aload_n 2, 1) := by decide +kernel
theorem dX6_pour_18 : decode cX6_pour 18 = .ok (.getfield 193, 3) := by decide +kernel
theorem dX6_pour_21 : decode cX6_pour 21 = .ok (.iconst (-1), 1) := by decide +kernel
theorem dX6_pour_22 : decode cX6_pour 22 = .ok (.if_icmp .ne 6, 3) := by decide +kernel
theorem dX6_pour_25 : decode cX6_pour 25 = .ok (.ldc 196, 2) := by decide +kernel
theorem dX6_pour_27 : decode cX6_pour 27 = .ok (.ireturn, 1) := by decide +kernel
theorem dX6_pour_28 : decode cX6_pour 28 = .ok (.iconst 0, 1) := by decide +kernel
theorem dX6_pour_29 : decode cX6_pour 29 = .ok (.istore_n 3, 1) := by decide +kernel
theorem dX6_pour_30 : decode cX6_pour 30 = .ok (.iconst 0, 1) := by decide +kernel
theorem dX6_pour_31 : decode cX6_pour 31 = .ok (.istore 4, 2) := by decide +kernel
theorem dX6_pour_33 : decode cX6_pour 33 = .ok (.iload 4, 2) := by decide +kernel
theorem dX6_pour_35 : decode cX6_pour 35 = .ok (.bipush 6, 2) := by decide +kernel
theorem dX6_pour_37 : decode cX6_pour 37 = .ok (.if_icmp .ge 72, 3) := by decide +kernel
theorem dX6_pour_40 : decode cX6_pour 40 = .ok (.iload 4, 2) := by decide +kernel
theorem dX6_pour_42 : decode cX6_pour 42 = .ok (.aload_n 2, 1) := by decide +kernel
theorem dX6_pour_43 : decode cX6_pour 43 = .ok (.getfield 197, 3) := by decide +kernel
theorem dX6_pour_46 : decode cX6_pour 46 = .ok (.if_icmp .ge 63, 3) := by decide +kernel
theorem dX6_pour_49 : decode cX6_pour 49 = .ok (.aload_n 2, 1) := by decide +kernel
theorem dX6_pour_50 : decode cX6_pour 50 = .ok (.iload 4, 2) := by decide +kernel
theorem dX6_pour_52 : decode cX6_pour 52 = .ok (.invokevirtual 200, 3) := by decide +kernel
theorem dX6_pour_55 : decode cX6_pour 55 = .ok (.ifCond .eq 48, 3) := by decide +kernel
theorem dX6_pour_58 : decode cX6_pour 58 = .ok (.aload_n 2, 1) := by decide +kernel
theorem dX6_pour_59 : decode cX6_pour 59 = .ok (.getfield 203, 3) := by decide +kernel
theorem dX6_pour_62 : decode cX6_pour 62 = .ok (.iload 4, 2) := by decide +kernel
theorem dX6_pour_64 : decode cX6_pour 64 = .ok (.iaload, 1) := by decide +kernel
theorem dX6_pour_65 : decode cX6_pour 65 = .ok (.iconst 0, 1) := by decide +kernel
theorem dX6_pour_66 : decode cX6_pour 66 = .ok (.bipush 9, 2) := by decide +kernel
theorem dX6_pour_68 : decode cX6_pour 68 = .ok (.invokestatic 256, 3) := by decide +kernel
theorem dX6_pour_71 : decode cX6_pour 71 = .ok (.istore 5, 2) := by decide +kernel
theorem dX6_pour_73 : decode cX6_pour 73 = .ok (.iload 5, 2) := by decide +kernel
theorem dX6_pour_75 : decode cX6_pour 75 = .ok (.aload_n 0, 1) := by decide +kernel
theorem dX6_pour_76 : decode cX6_pour 76 = .ok (.getfield 28, 3) := by decide +kernel
theorem dX6_pour_79 : decode cX6_pour 79 = .ok (.getfield 128, 3) := by decide +kernel
theorem dX6_pour_82 : decode cX6_pour 82 = .ok (.iload 4, 2) := by decide +kernel
theorem dX6_pour_84 : decode cX6_pour 84 = .ok (.iaload, 1) := by decide +kernel
theorem dX6_pour_85 : decode cX6_pour 85 = .ok (.if_icmp .eq 6, 3) := by decide +kernel
theorem dX6_pour_88 : decode cX6_pour 88 = .ok (.iinc 3 1, 3) := by decide +kernel
theorem dX6_pour_91 : decode cX6_pour 91 = .ok (.aload_n 0, 1) := by decide +kernel
theorem dX6_pour_92 : decode cX6_pour 92 = .ok (.getfield 28, 3) := by decide +kernel
theorem dX6_pour_95 : decode cX6_pour 95 = .ok (.getfield 128, 3) := by decide +kernel
theorem dX6_pour_98 : decode cX6_pour 98 = .ok (.iload 4, 2) := by decide +kernel
theorem dX6_pour_100 : decode cX6_pour 100 = .ok (.iload 5, 2) := by decide +kernel
theorem dX6_pour_102 : decode cX6_pour 102 = .ok (.iastore, 1) := by decide +kernel
theorem dX6_pour_103 : decode cX6_pour 103 = .ok (.iinc 4 1, 3) := by decide +kernel
theorem dX6_pour_106 : decode cX6_pour 106 = .ok (.goto (-73), 3) := by decide +kernel
theorem dX6_pour_109 : decode cX6_pour 109 = .ok (.iload_n 3, 1) := by decide +kernel
theorem dX6_pour_110 : decode cX6_pour 110 = .ok (.ireturn, 1) := by decide +kernel
theorem dX6_reads_0 : decode cX6_reads 0 = .ok (.iload_n 1, 1) := by decide +kernel
theorem dX6_reads_1 : decode cX6_reads 1 = .ok (.invokestatic 190, 3) := by decide +kernel
theorem dX6_reads_4 : decode cX6_reads 4 = .ok (.ifCond .eq 6, 3) := by decide +kernel
theorem dX6_reads_7 : decode cX6_reads 7 = .ok (.ldc 67, 2) := by decide +kernel
theorem dX6_reads_9 : decode cX6_reads 9 = .ok (.ireturn, 1) := by decide +kernel
theorem dX6_reads_10 : decode cX6_reads 10 = .ok (.aload_n 0, 1) := by decide +kernel
theorem dX6_reads_11 : decode cX6_reads 11 = .ok (.getfield 40, 3) := by decide +kernel
theorem dX6_reads_14 : decode cX6_reads 14 = .ok (.iload_n 1, 1) := by decide +kernel
theorem dX6_reads_15 : decode cX6_reads 15 = .ok (.aaload, 1) := by decide +kernel
theorem dX6_reads_16 : decode cX6_reads 16 = .ok (.astore_n 2, 1) := by decide +kernel
theorem dX6_reads_17 : decode cX6_reads 17 = .ok (.aload_n 2, 1) := by decide +kernel
theorem dX6_reads_18 : decode cX6_reads 18 = .ok (.getfield 193, 3) := by decide +kernel
theorem dX6_reads_21 : decode cX6_reads 21 = .ok (.iconst (-1), 1) := by decide +kernel
theorem dX6_reads_22 : decode cX6_reads 22 = .ok (.if_icmp .ne 6, 3) := by decide +kernel
theorem dX6_reads_25 : decode cX6_reads 25 = .ok (.ldc 196, 2) := by decide +kernel
theorem dX6_reads_27 : decode cX6_reads 27 = .ok (.ireturn, 1) := by decide +kernel
theorem dX6_reads_28 : decode cX6_reads 28 = .ok (.iconst 0, 1) := by decide +kernel
theorem dX6_reads_29 : decode cX6_reads 29 = .ok (.istore_n 3, 1) := by decide +kernel
theorem dX6_reads_30 : decode cX6_reads 30 = .ok (.iload_n 3, 1) := by decide +kernel
theorem dX6_reads_31 : decode cX6_reads 31 = .ok (.aload_n 2, 1) := by decide +kernel
theorem dX6_reads_32 : decode cX6_reads 32 = .ok (.getfield 197, 3) := by decide +kernel
theorem dX6_reads_35 : decode cX6_reads 35 = .ok (.if_icmp .ge 43, 3) := by decide +kernel
theorem dX6_reads_38 : decode cX6_reads 38 = .ok (.aload_n 2, 1) := by decide +kernel
theorem dX6_reads_39 : decode cX6_reads 39 = .ok (.iload_n 3, 1) := by decide +kernel
theorem dX6_reads_40 : decode cX6_reads 40 = .ok (.invokevirtual 200, 3) := by decide +kernel
theorem dX6_reads_43 : decode cX6_reads 43 = .ok (.ifCond .eq 29, 3) := by decide +kernel
theorem dX6_reads_46 : decode cX6_reads 46 = .ok (.iload_n 3, 1) := by decide +kernel
theorem dX6_reads_47 : decode cX6_reads 47 = .ok (.bipush 6, 2) := by decide +kernel
theorem dX6_reads_49 : decode cX6_reads 49 = .ok (.if_icmp .ge 21, 3) := by decide +kernel
theorem dX6_reads_52 : decode cX6_reads 52 = .ok (.aload_n 2, 1) := by decide +kernel
theorem dX6_reads_53 : decode cX6_reads 53 = .ok (.getfield 203, 3) := by decide +kernel
theorem dX6_reads_56 : decode cX6_reads 56 = .ok (.iload_n 3, 1) := by decide +kernel
theorem dX6_reads_57 : decode cX6_reads 57 = .ok (.iaload, 1) := by decide +kernel
theorem dX6_reads_58 : decode cX6_reads 58 = .ok (.aload_n 0, 1) := by decide +kernel
theorem dX6_reads_59 : decode cX6_reads 59 = .ok (.getfield 28, 3) := by decide +kernel
theorem dX6_reads_62 : decode cX6_reads 62 = .ok (.getfield 134, 3) := by decide +kernel
theorem dX6_reads_65 : decode cX6_reads 65 = .ok (.iload_n 3, 1) := by decide +kernel
theorem dX6_reads_66 : decode cX6_reads 66 = .ok (.iaload, 1) := by decide +kernel
theorem dX6_reads_67 : decode cX6_reads 67 = .ok (.if_icmp .eq 5, 3) := by decide +kernel
theorem dX6_reads_70 : decode cX6_reads 70 = .ok (.iload_n 3, 1) := by decide +kernel
theorem dX6_reads_71 : decode cX6_reads 71 = .ok (.ireturn, 1) := by decide +kernel
theorem dX6_reads_72 : decode cX6_reads 72 = .ok (.iinc 3 1, 3) := by decide +kernel
theorem dX6_reads_75 : decode cX6_reads 75 = .ok (.goto (-45), 3) := by decide +kernel
theorem dX6_reads_78 : decode cX6_reads 78 = .ok (.ldc 181, 2) := by decide +kernel
theorem dX6_reads_80 : decode cX6_reads 80 = .ok (.ireturn, 1) := by decide +kernel
theorem dX6_copy_0 : decode cX6_copy 0 = .ok (.iload_n 1, 1) := by decide +kernel
theorem dX6_copy_1 : decode cX6_copy 1 = .ok (.invokestatic 190, 3) := by decide +kernel
theorem dX6_copy_4 : decode cX6_copy 4 = .ok (.ifCond .ne 10, 3) := by decide +kernel
theorem dX6_copy_7 : decode cX6_copy 7 = .ok (.iload_n 3, 1) := by decide +kernel
theorem dX6_copy_8 : decode cX6_copy 8 = .ok (.invokestatic 190, 3) := by decide +kernel
theorem dX6_copy_11 : decode cX6_copy 11 = .ok (.ifCond .eq 6, 3) := by decide +kernel
theorem dX6_copy_14 : decode cX6_copy 14 = .ok (.ldc 67, 2) := by decide +kernel
theorem dX6_copy_16 : decode cX6_copy 16 = .ok (.ireturn, 1) := by decide +kernel
theorem dX6_copy_17 : decode cX6_copy 17 = .ok (.aload_n 0, 1) := by decide +kernel
theorem dX6_copy_18 : decode cX6_copy 18 = .ok (.getfield 40, 3) := by decide +kernel
theorem dX6_copy_21 : decode cX6_copy 21 = .ok (.iload_n 1, 1) := by decide +kernel
theorem dX6_copy_22 : decode cX6_copy 22 = .ok (.aaload, 1) := by decide +kernel
theorem dX6_copy_23 : decode cX6_copy 23 = .ok (.astore 6, 2) := by decide +kernel
theorem dX6_copy_25 : decode cX6_copy 25 = .ok (.aload_n 0, 1) := by decide +kernel
theorem dX6_copy_26 : decode cX6_copy 26 = .ok (.getfield 40, 3) := by decide +kernel
theorem dX6_copy_29 : decode cX6_copy 29 = .ok (.iload_n 3, 1) := by decide +kernel
theorem dX6_copy_30 : decode cX6_copy 30 = .ok (.aaload, 1) := by decide +kernel
theorem dX6_copy_31 : decode cX6_copy 31 = .ok (.astore 7, 2) := by decide +kernel
theorem dX6_copy_33 : decode cX6_copy 33 = .ok (.aload 6, 2) := by decide +kernel
theorem dX6_copy_35 : decode cX6_copy 35 = .ok (.getfield 193, 3) := by decide +kernel
theorem dX6_copy_38 : decode cX6_copy 38 = .ok (.iconst (-1), 1) := by decide +kernel
theorem dX6_copy_39 : decode cX6_copy 39 = .ok (.if_icmp .eq 12, 3) := by decide +kernel
theorem dX6_copy_42 : decode cX6_copy 42 = .ok (.aload 7, 2) := by decide +kernel
theorem dX6_copy_44 : decode cX6_copy 44 = .ok (.getfield 193, 3) := by decide +kernel
theorem dX6_copy_47 : decode cX6_copy 47 = .ok (.iconst (-1), 1) := by decide +kernel
theorem dX6_copy_48 : decode cX6_copy 48 = .ok (.if_icmp .ne 6, 3) := by decide +kernel
theorem dX6_copy_51 : decode cX6_copy 51 = .ok (.ldc 196, 2) := by decide +kernel
theorem dX6_copy_53 : decode cX6_copy 53 = .ok (.ireturn, 1) := by decide +kernel
theorem dX6_copy_54 : decode cX6_copy 54 = .ok (.aload 6, 2) := by decide +kernel
theorem dX6_copy_56 : decode cX6_copy 56 = .ok (.getfield 193, 3) := by decide +kernel
theorem dX6_copy_59 : decode cX6_copy 59 = .ok (.aload 7, 2) := by decide +kernel
theorem dX6_copy_61 : decode cX6_copy 61 = .ok (.getfield 193, 3) := by decide +kernel
theorem dX6_copy_64 : decode cX6_copy 64 = .ok (.if_icmp .eq 6, 3) := by decide +kernel
theorem dX6_copy_67 : decode cX6_copy 67 = .ok (.ldc 106, 2) := by decide +kernel
theorem dX6_copy_69 : decode cX6_copy 69 = .ok (.ireturn, 1) := by decide +kernel
theorem dX6_copy_70 : decode cX6_copy 70 = .ok (.aload 6, 2) := by decide +kernel
theorem dX6_copy_72 : decode cX6_copy 72 = .ok (.iload_n 2, 1) := by decide +kernel
theorem dX6_copy_73 : decode cX6_copy 73 = .ok (.iload 5, 2) := by decide +kernel
theorem dX6_copy_75 : decode cX6_copy 75 = .ok (.invokevirtual 259, 3) := by decide +kernel
theorem dX6_copy_78 : decode cX6_copy 78 = .ok (.ifCond .ne 15, 3) := by decide +kernel
theorem dX6_copy_81 : decode cX6_copy 81 = .ok (.aload 7, 2) := by decide +kernel
theorem dX6_copy_83 : decode cX6_copy 83 = .ok (.iload 4, 2) := by decide +kernel
theorem dX6_copy_85 : decode cX6_copy 85 = .ok (.iload 5, 2) := by decide +kernel
theorem dX6_copy_87 : decode cX6_copy 87 = .ok (.invokevirtual 259, 3) := by decide +kernel
theorem dX6_copy_90 : decode cX6_copy 90 = .ok (.ifCond .eq 6, 3) := by decide +kernel
theorem dX6_copy_93 : decode cX6_copy 93 = .ok (.ldc 253, 2) := by decide +kernel
theorem dX6_copy_95 : decode cX6_copy 95 = .ok (.ireturn, 1) := by decide +kernel
theorem dX6_copy_96 : decode cX6_copy 96 = .ok (.aload 6, 2) := by decide +kernel
theorem dX6_copy_98 : decode cX6_copy 98 = .ok (.getfield 203, 3) := by decide +kernel
theorem dX6_copy_101 : decode cX6_copy 101 = .ok (.iload_n 2, 1) := by decide +kernel
theorem dX6_copy_102 : decode cX6_copy 102 = .ok (.aload 7, 2) := by decide +kernel
theorem dX6_copy_104 : decode cX6_copy 104 = .ok (.getfield 203, 3) := by decide +kernel
theorem dX6_copy_107 : decode cX6_copy 107 = .ok (.iload 4, 2) := by decide +kernel
theorem dX6_copy_109 : decode cX6_copy 109 = .ok (.iload 5, 2) := by decide +kernel
theorem dX6_copy_111 : decode cX6_copy 111 = .ok (.invokestatic 262, 3) := by decide +kernel
theorem dX6_copy_114 : decode cX6_copy 114 = .ok (.iload 5, 2) := by decide +kernel
theorem dX6_copy_116 : decode cX6_copy 116 = .ok (.ireturn, 1) := by decide +kernel
theorem dX6_lay_0 : decode cX6_lay 0 = .ok (.iload_n 1, 1) := by decide +kernel
theorem dX6_lay_1 : decode cX6_lay 1 = .ok (.invokestatic 268, 3) := by decide +kernel
theorem dX6_lay_4 : decode cX6_lay 4 = .ok (.ifCond .ne 12, 3) := by decide +kernel
theorem dX6_lay_7 : decode cX6_lay 7 = .ok (.iload_n 2, 1) := by decide +kernel
theorem dX6_lay_8 : decode cX6_lay 8 = .ok (.iconst 0, 1) := by decide +kernel
theorem dX6_lay_9 : decode cX6_lay 9 = .ok (.iconst 3, 1) := by decide +kernel
theorem dX6_lay_10 : decode cX6_lay 10 = .ok (.invokestatic 63, 3) := by decide +kernel
theorem dX6_lay_13 : decode cX6_lay 13 = .ok (.ifCond .eq 6, 3) := by decide +kernel
theorem dX6_lay_16 : decode cX6_lay 16 = .ok (.ldc 67, 2) := by decide +kernel
theorem dX6_lay_18 : decode cX6_lay 18 = .ok (.ireturn, 1) := by decide +kernel
theorem dX6_lay_19 : decode cX6_lay 19 = .ok (.iload_n 2, 1) := by decide +kernel
theorem dX6_lay_20 : decode cX6_lay 20 = .ok (.iconst 1, 1) := by decide +kernel
theorem dX6_lay_21 : decode cX6_lay 21 = .ok (.if_icmp .ne 11, 3) := by decide +kernel
theorem dX6_lay_24 : decode cX6_lay 24 = .ok (.aload_n 0, 1) := by decide +kernel
theorem dX6_lay_25 : decode cX6_lay 25 = .ok (.iload_n 3, 1) := by decide +kernel
theorem dX6_lay_26 : decode cX6_lay 26 = .ok (.invokevirtual 77, 3) := by decide +kernel
theorem dX6_lay_29 : decode cX6_lay 29 = .ok (.ifCond .ne 15, 3) := by decide +kernel
theorem dX6_lay_32 : decode cX6_lay 32 = .ok (.iload_n 2, 1) := by decide +kernel
theorem dX6_lay_33 : decode cX6_lay 33 = .ok (.iconst 2, 1) := by decide +kernel
theorem dX6_lay_34 : decode cX6_lay 34 = .ok (.if_icmp .ne 13, 3) := by decide +kernel
theorem dX6_lay_37 : decode cX6_lay 37 = .ok (.iload_n 3, 1) := by decide +kernel
theorem dX6_lay_38 : decode cX6_lay 38 = .ok (.invokestatic 190, 3) := by decide +kernel
theorem dX6_lay_41 : decode cX6_lay 41 = .ok (.ifCond .eq 6, 3) := by decide +kernel
theorem dX6_lay_44 : decode cX6_lay 44 = .ok (.ldc 67, 2) := by decide +kernel
theorem dX6_lay_46 : decode cX6_lay 46 = .ok (.ireturn, 1) := by decide +kernel
theorem dX6_lay_47 : decode cX6_lay 47 = .ok (.iload_n 2, 1) := by decide +kernel
theorem dX6_lay_48 : decode cX6_lay 48 = .ok (.iconst 2, 1) := by decide +kernel
theorem dX6_lay_49 : decode cX6_lay 49 = .ok (.if_icmp .ne 19, 3) := by decide +kernel
theorem dX6_lay_52 : decode cX6_lay 52 = .ok (.aload_n 0, 1) := by decide +kernel
theorem dX6_lay_53 : decode cX6_lay 53 = .ok (.getfield 40, 3) := by decide +kernel
theorem dX6_lay_56 : decode cX6_lay 56 = .ok (.iload_n 3, 1) := by decide +kernel
theorem dX6_lay_57 : decode cX6_lay 57 = .ok (.aaload, 1) := by decide +kernel
theorem dX6_lay_58 : decode cX6_lay 58 = .ok (.getfield 193, 3) := by decide +kernel
theorem dX6_lay_61 : decode cX6_lay 61 = .ok (.iconst (-1), 1) := by decide +kernel
theorem dX6_lay_62 : decode cX6_lay 62 = .ok (.if_icmp .ne 6, 3) := by decide +kernel
theorem dX6_lay_65 : decode cX6_lay 65 = .ok (.ldc 196, 2) := by decide +kernel
theorem dX6_lay_67 : decode cX6_lay 67 = .ok (.ireturn, 1) := by decide +kernel
theorem dX6_lay_68 : decode cX6_lay 68 = .ok (.aload_n 0, 1) := by decide +kernel
theorem dX6_lay_69 : decode cX6_lay 69 = .ok (.getfield 47, 3) := by decide +kernel
theorem dX6_lay_72 : decode cX6_lay 72 = .ok (.iload_n 1, 1) := by decide +kernel
theorem dX6_lay_73 : decode cX6_lay 73 = .ok (.aaload, 1) := by decide +kernel
theorem dX6_lay_74 : decode cX6_lay 74 = .ok (.astore 4, 2) := by decide +kernel
theorem dX6_lay_76 : decode cX6_lay 76 = .ok (.aload 4, 2) := by decide +kernel
theorem dX6_lay_78 : decode cX6_lay 78 = .ok (.getfield 271, 3) := by decide +kernel
theorem dX6_lay_81 : decode cX6_lay 81 = .ok (.istore 5, 2) := by decide +kernel
theorem dX6_lay_83 : decode cX6_lay 83 = .ok (.aload 4, 2) := by decide +kernel
theorem dX6_lay_85 : decode cX6_lay 85 = .ok (.iload_n 2, 1) := by decide +kernel
