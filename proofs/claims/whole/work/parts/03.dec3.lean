theorem dX6_lay_86 : decode cX6_lay 86 = .ok (.putfield 271, 3) := by decide +kernel
theorem dX6_lay_89 : decode cX6_lay 89 = .ok (.iload_n 2, 1) := by decide +kernel
theorem dX6_lay_90 : decode cX6_lay 90 = .ok (.iconst 1, 1) := by decide +kernel
theorem dX6_lay_91 : decode cX6_lay 91 = .ok (.if_icmp .ne 20, 3) := by decide +kernel
theorem dX6_lay_94 : decode cX6_lay 94 = .ok (.aload 4, 2) := by decide +kernel
theorem dX6_lay_96 : decode cX6_lay 96 = .ok (.aload_n 0, 1) := by decide +kernel
theorem dX6_lay_97 : decode cX6_lay 97 = .ok (.getfield 28, 3) := by decide +kernel
theorem dX6_lay_100 : decode cX6_lay 100 = .ok (.getfield 80, 3) := by decide +kernel
theorem dX6_lay_103 : decode cX6_lay 103 = .ok (.iload_n 3, 1) := by decide +kernel
theorem dX6_lay_104 : decode cX6_lay 104 = .ok (.iaload, 1) := by decide +kernel
theorem dX6_lay_105 : decode cX6_lay 105 = .ok (.putfield 274, 3) := by decide +kernel
theorem dX6_lay_108 : decode cX6_lay 108 = .ok (.goto 31, 3) := by decide +kernel
theorem dX6_lay_111 : decode cX6_lay 111 = .ok (.iload_n 2, 1) := by decide +kernel
theorem dX6_lay_112 : decode cX6_lay 112 = .ok (.iconst 2, 1) := by decide +kernel
theorem dX6_lay_113 : decode cX6_lay 113 = .ok (.if_icmp .ne 20, 3) := by decide +kernel
theorem dX6_lay_116 : decode cX6_lay 116 = .ok (.aload 4, 2) := by decide +kernel
theorem dX6_lay_118 : decode cX6_lay 118 = .ok (.getfield 276, 3) := by decide +kernel
theorem dX6_lay_121 : decode cX6_lay 121 = .ok (.aload_n 0, 1) := by decide +kernel
theorem dX6_lay_122 : decode cX6_lay 122 = .ok (.getfield 40, 3) := by decide +kernel
theorem dX6_lay_125 : decode cX6_lay 125 = .ok (.iload_n 3, 1) := by decide +kernel
theorem dX6_lay_126 : decode cX6_lay 126 = .ok (.aaload, 1) := by decide +kernel
theorem dX6_lay_127 : decode cX6_lay 127 = .ok (.invokevirtual 280, 3) := by decide +kernel
theorem dX6_lay_130 : decode cX6_lay 130 = .ok (.goto 9, 3) := by decide +kernel
theorem dX6_lay_133 : decode cX6_lay 133 = .ok (.aload 4, 2) := by decide +kernel
theorem dX6_lay_135 : decode cX6_lay 135 = .ok (.iload_n 3, 1) := by decide +kernel
theorem dX6_lay_136 : decode cX6_lay 136 = .ok (.putfield 283, 3) := by decide +kernel
theorem dX6_lay_139 : decode cX6_lay 139 = .ok (.iload 5, 2) := by decide +kernel
theorem dX6_lay_141 : decode cX6_lay 141 = .ok (.ireturn, 1) := by decide +kernel
theorem dX6_ask_0 : decode cX6_ask 0 = .ok (.iload_n 1, 1) := by decide +kernel
theorem dX6_ask_1 : decode cX6_ask 1 = .ok (.invokestatic 268, 3) := by decide +kernel
theorem dX6_ask_4 : decode cX6_ask 4 = .ok (.ifCond .ne 10, 3) := by decide +kernel
theorem dX6_ask_7 : decode cX6_ask 7 = .ok (.iload_n 2, 1) := by decide +kernel
theorem dX6_ask_8 : decode cX6_ask 8 = .ok (.invokestatic 59, 3) := by decide +kernel
theorem dX6_ask_11 : decode cX6_ask 11 = .ok (.ifCond .eq 6, 3) := by decide +kernel
theorem dX6_ask_14 : decode cX6_ask 14 = .ok (.ldc 67, 2) := by decide +kernel
theorem dX6_ask_16 : decode cX6_ask 16 = .ok (.ireturn, 1) := by decide +kernel
theorem dX6_ask_17 : decode cX6_ask 17 = .ok (.aload_n 0, 1) := by decide +kernel
theorem dX6_ask_18 : decode cX6_ask 18 = .ok (.getfield 47, 3) := by decide +kernel
theorem dX6_ask_21 : decode cX6_ask 21 = .ok (.iload_n 1, 1) := by decide +kernel
theorem dX6_ask_22 : decode cX6_ask 22 = .ok (.aaload, 1) := by decide +kernel
theorem dX6_ask_23 : decode cX6_ask 23 = .ok (.astore_n 3, 1) := by decide +kernel
theorem dX6_ask_24 : decode cX6_ask 24 = .ok (.aload_n 3, 1) := by decide +kernel
theorem dX6_ask_25 : decode cX6_ask 25 = .ok (.getfield 271, 3) := by decide +kernel
theorem dX6_ask_28 : decode cX6_ask 28 = .ok (.ifCond .ne 6, 3) := by decide +kernel
theorem dX6_ask_31 : decode cX6_ask 31 = .ok (.ldc 196, 2) := by decide +kernel
theorem dX6_ask_33 : decode cX6_ask 33 = .ok (.ireturn, 1) := by decide +kernel
theorem dX6_ask_34 : decode cX6_ask 34 = .ok (.aload_n 3, 1) := by decide +kernel
theorem dX6_ask_35 : decode cX6_ask 35 = .ok (.getfield 271, 3) := by decide +kernel
theorem dX6_ask_38 : decode cX6_ask 38 = .ok (.iconst 1, 1) := by decide +kernel
theorem dX6_ask_39 : decode cX6_ask 39 = .ok (.if_icmp .ne 14, 3) := by decide +kernel
theorem dX6_ask_42 : decode cX6_ask 42 = .ok (.aload_n 3, 1) := by decide +kernel
theorem dX6_ask_43 : decode cX6_ask 43 = .ok (.getfield 274, 3) := by decide +kernel
theorem dX6_ask_46 : decode cX6_ask 46 = .ok (.iload_n 2, 1) := by decide +kernel
theorem dX6_ask_47 : decode cX6_ask 47 = .ok (.invokestatic 102, 3) := by decide +kernel
theorem dX6_ask_50 : decode cX6_ask 50 = .ok (.ifCond .ne 6, 3) := by decide +kernel
theorem dX6_ask_53 : decode cX6_ask 53 = .ok (.ldc 106, 2) := by decide +kernel
theorem dX6_ask_55 : decode cX6_ask 55 = .ok (.ireturn, 1) := by decide +kernel
theorem dX6_ask_56 : decode cX6_ask 56 = .ok (.getstatic 92, 3) := by decide +kernel
theorem dX6_ask_59 : decode cX6_ask 59 = .ok (.aload_n 3, 1) := by decide +kernel
theorem dX6_ask_60 : decode cX6_ask 60 = .ok (.getfield 274, 3) := by decide +kernel
theorem dX6_ask_63 : decode cX6_ask 63 = .ok (.iaload, 1) := by decide +kernel
theorem dX6_ask_64 : decode cX6_ask 64 = .ok (.ireturn, 1) := by decide +kernel
theorem dX6_item_0 : decode cX6_item 0 = .ok (.iload_n 1, 1) := by decide +kernel
theorem dX6_item_1 : decode cX6_item 1 = .ok (.invokestatic 268, 3) := by decide +kernel
theorem dX6_item_4 : decode cX6_item 4 = .ok (.ifCond .eq 6, 3) := by decide +kernel
theorem dX6_item_7 : decode cX6_item 7 = .ok (.ldc 67, 2) := by decide +kernel
theorem dX6_item_9 : decode cX6_item 9 = .ok (.ireturn, 1) := by decide +kernel
theorem dX6_item_10 : decode cX6_item 10 = .ok (.aload_n 0, 1) := by decide +kernel
theorem dX6_item_11 : decode cX6_item 11 = .ok (.getfield 47, 3) := by decide +kernel
theorem dX6_item_14 : decode cX6_item 14 = .ok (.iload_n 1, 1) := by decide +kernel
theorem dX6_item_15 : decode cX6_item 15 = .ok (.aaload, 1) := by decide +kernel
theorem dX6_item_16 : decode cX6_item 16 = .ok (.astore_n 3, 1) := by decide +kernel
theorem dX6_item_17 : decode cX6_item 17 = .ok (.aload_n 3, 1) := by decide +kernel
theorem dX6_item_18 : decode cX6_item 18 = .ok (.getfield 271, 3) := by decide +kernel
theorem dX6_item_21 : decode cX6_item 21 = .ok (.ifCond .ne 6, 3) := by decide +kernel
theorem dX6_item_24 : decode cX6_item 24 = .ok (.ldc 196, 2) := by decide +kernel
theorem dX6_item_26 : decode cX6_item 26 = .ok (.ireturn, 1) := by decide +kernel
theorem dX6_item_27 : decode cX6_item 27 = .ok (.aload_n 3, 1) := by decide +kernel
theorem dX6_item_28 : decode cX6_item 28 = .ok (.getfield 271, 3) := by decide +kernel
theorem dX6_item_31 : decode cX6_item 31 = .ok (.iconst 2, 1) := by decide +kernel
theorem dX6_item_32 : decode cX6_item 32 = .ok (.if_icmp .eq 6, 3) := by decide +kernel
theorem dX6_item_35 : decode cX6_item 35 = .ok (.ldc 106, 2) := by decide +kernel
theorem dX6_item_37 : decode cX6_item 37 = .ok (.ireturn, 1) := by decide +kernel
theorem dX6_item_38 : decode cX6_item 38 = .ok (.iload_n 2, 1) := by decide +kernel
theorem dX6_item_39 : decode cX6_item 39 = .ok (.iconst 0, 1) := by decide +kernel
theorem dX6_item_40 : decode cX6_item 40 = .ok (.aload_n 3, 1) := by decide +kernel
theorem dX6_item_41 : decode cX6_item 41 = .ok (.getfield 276, 3) := by decide +kernel
theorem dX6_item_44 : decode cX6_item 44 = .ok (.getfield 197, 3) := by decide +kernel
theorem dX6_item_47 : decode cX6_item 47 = .ok (.iconst 1, 1) := by decide +kernel
theorem dX6_item_48 : decode cX6_item 48 = .ok (.isub, 1) := by decide +kernel
theorem dX6_item_49 : decode cX6_item 49 = .ok (.invokestatic 63, 3) := by decide +kernel
theorem dX6_item_52 : decode cX6_item 52 = .ok (.ifCond .eq 6, 3) := by decide +kernel
theorem dX6_item_55 : decode cX6_item 55 = .ok (.ldc 253, 2) := by decide +kernel
theorem dX6_item_57 : decode cX6_item 57 = .ok (.ireturn, 1) := by decide +kernel
theorem dX6_item_58 : decode cX6_item 58 = .ok (.aload_n 3, 1) := by decide +kernel
theorem dX6_item_59 : decode cX6_item 59 = .ok (.getfield 276, 3) := by decide +kernel
theorem dX6_item_62 : decode cX6_item 62 = .ok (.iload_n 2, 1) := by decide +kernel
theorem dX6_item_63 : decode cX6_item 63 = .ok (.invokevirtual 200, 3) := by decide +kernel
theorem dX6_item_66 : decode cX6_item 66 = .ok (.ifCond .eq 15, 3) := by decide +kernel
theorem dX6_item_69 : decode cX6_item 69 = .ok (.aload_n 3, 1) := by decide +kernel
theorem dX6_item_70 : decode cX6_item 70 = .ok (.getfield 276, 3) := by decide +kernel
theorem dX6_item_73 : decode cX6_item 73 = .ok (.getfield 203, 3) := by decide +kernel
theorem dX6_item_76 : decode cX6_item 76 = .ok (.iload_n 2, 1) := by decide +kernel
theorem dX6_item_77 : decode cX6_item 77 = .ok (.iaload, 1) := by decide +kernel
theorem dX6_item_78 : decode cX6_item 78 = .ok (.goto 5, 3) := by decide +kernel
theorem dX6_item_81 : decode cX6_item 81 = .ok (.ldc 106, 2) := by decide +kernel
theorem dX6_item_83 : decode cX6_item 83 = .ok (.ireturn, 1) := by decide +kernel
theorem dX6_rest_0 : decode cX6_rest 0 = .ok (.iload_n 1, 1) := by decide +kernel
theorem dX6_rest_1 : decode cX6_rest 1 = .ok (.invokestatic 268, 3) := by decide +kernel
theorem dX6_rest_4 : decode cX6_rest 4 = .ok (.ifCond .eq 6, 3) := by decide +kernel
theorem dX6_rest_7 : decode cX6_rest 7 = .ok (.ldc 67, 2) := by decide +kernel
theorem dX6_rest_9 : decode cX6_rest 9 = .ok (.ireturn, 1) := by decide +kernel
theorem dX6_rest_10 : decode cX6_rest 10 = .ok (.aload_n 0, 1) := by decide +kernel
theorem dX6_rest_11 : decode cX6_rest 11 = .ok (.getfield 47, 3) := by decide +kernel
theorem dX6_rest_14 : decode cX6_rest 14 = .ok (.iload_n 1, 1) := by decide +kernel
theorem dX6_rest_15 : decode cX6_rest 15 = .ok (.aaload, 1) := by decide +kernel
theorem dX6_rest_16 : decode cX6_rest 16 = .ok (.astore_n 3, 1) := by decide +kernel
theorem dX6_rest_17 : decode cX6_rest 17 = .ok (.aload_n 3, 1) := by decide +kernel
theorem dX6_rest_18 : decode cX6_rest 18 = .ok (.getfield 271, 3) := by decide +kernel
theorem dX6_rest_21 : decode cX6_rest 21 = .ok (.ifCond .ne 6, 3) := by decide +kernel
theorem dX6_rest_24 : decode cX6_rest 24 = .ok (.ldc 196, 2) := by decide +kernel
theorem dX6_rest_26 : decode cX6_rest 26 = .ok (.ireturn, 1) := by decide +kernel
theorem dX6_rest_27 : decode cX6_rest 27 = .ok (.aload_n 3, 1) := by decide +kernel
theorem dX6_rest_28 : decode cX6_rest 28 = .ok (.getfield 271, 3) := by decide +kernel
theorem dX6_rest_31 : decode cX6_rest 31 = .ok (.iconst 3, 1) := by decide +kernel
theorem dX6_rest_32 : decode cX6_rest 32 = .ok (.if_icmp .eq 6, 3) := by decide +kernel
theorem dX6_rest_35 : decode cX6_rest 35 = .ok (.ldc 106, 2) := by decide +kernel
theorem dX6_rest_37 : decode cX6_rest 37 = .ok (.ireturn, 1) := by decide +kernel
theorem dX6_rest_38 : decode cX6_rest 38 = .ok (.iload_n 2, 1) := by decide +kernel
theorem dX6_rest_39 : decode cX6_rest 39 = .ok (.ifCond .ne 9, 3) := by decide +kernel
theorem dX6_rest_42 : decode cX6_rest 42 = .ok (.ldc_w 286, 3) := by decide +kernel
theorem dX6_rest_45 : decode cX6_rest 45 = .ok (.goto 9, 3) := by decide +kernel
theorem dX6_rest_48 : decode cX6_rest 48 = .ok (.aload_n 3, 1) := by decide +kernel
theorem dX6_rest_49 : decode cX6_rest 49 = .ok (.getfield 283, 3) := by decide +kernel
theorem dX6_rest_52 : decode cX6_rest 52 = .ok (.iload_n 2, 1) := by decide +kernel
theorem dX6_rest_53 : decode cX6_rest 53 = .ok (.irem, 1) := by decide +kernel
theorem dX6_rest_54 : decode cX6_rest 54 = .ok (.ireturn, 1) := by decide +kernel
theorem dX6_tell_0 : decode cX6_tell 0 = .ok (.aload_n 0, 1) := by decide +kernel
theorem dX6_tell_1 : decode cX6_tell 1 = .ok (.getfield 287, 3) := by decide +kernel
theorem dX6_tell_4 : decode cX6_tell 4 = .ok (.bipush 60, 2) := by decide +kernel
theorem dX6_tell_6 : decode cX6_tell 6 = .ok (.if_icmp .lt 6, 3) := by decide +kernel
theorem dX6_tell_9 : decode cX6_tell 9 = .ok (.ldc 72, 2) := by decide +kernel
theorem dX6_tell_11 : decode cX6_tell 11 = .ok (.ireturn, 1) := by decide +kernel
theorem dX6_tell_12 : decode cX6_tell 12 = .ok (.aload_n 0, 1) := by decide +kernel
theorem dX6_tell_13 : decode cX6_tell 13 = .ok (.getfield 52, 3) := by decide +kernel
theorem dX6_tell_16 : decode cX6_tell 16 = .ok (.aload_n 0, 1) := by decide +kernel
theorem dX6_tell_17 : decode cX6_tell 17 = .ok (.getfield 287, 3) := by decide +kernel
theorem dX6_tell_20 : decode cX6_tell 20 = .ok (.iload_n 1, 1) := by decide +kernel
theorem dX6_tell_21 : decode cX6_tell 21 = .ok (.iastore, 1) := by decide +kernel
theorem dX6_tell_22 : decode cX6_tell 22 = .ok (.aload_n 0, 1) := by decide +kernel
theorem dX6_tell_23 : decode cX6_tell 23 = .ok (.dup, 1) := by decide +kernel
theorem dX6_tell_24 : decode cX6_tell 24 = .ok (.getfield 287, 3) := by decide +kernel
theorem dX6_tell_27 : decode cX6_tell 27 = .ok (.iconst 1, 1) := by decide +kernel
theorem dX6_tell_28 : decode cX6_tell 28 = .ok (.iadd, 1) := by decide +kernel
theorem dX6_tell_29 : decode cX6_tell 29 = .ok (.putfield 287, 3) := by decide +kernel
theorem dX6_tell_32 : decode cX6_tell 32 = .ok (.aload_n 0, 1) := by decide +kernel
theorem dX6_tell_33 : decode cX6_tell 33 = .ok (.getfield 287, 3) := by decide +kernel
theorem dX6_tell_36 : decode cX6_tell 36 = .ok (.ireturn, 1) := by decide +kernel
theorem dX6_check_0 : decode cX6_check 0 = .ok (.aload_n 0, 1) := by decide +kernel
theorem dX6_check_1 : decode cX6_check 1 = .ok (.getfield 287, 3) := by decide +kernel
theorem dX6_check_4 : decode cX6_check 4 = .ok (.istore_n 2, 1) := by decide +kernel
theorem dX6_check_5 : decode cX6_check 5 = .ok (.aload_n 0, 1) := by decide +kernel
theorem dX6_check_6 : decode cX6_check 6 = .ok (.iconst 0, 1) := by decide +kernel
theorem dX6_check_7 : decode cX6_check 7 = .ok (.putfield 287, 3) := by decide +kernel
theorem dX6_check_10 : decode cX6_check 10 = .ok (.iload_n 1, 1) := by decide +kernel
theorem dX6_check_11 : decode cX6_check 11 = .ok (.iconst 1, 1) := by decide +kernel
theorem dX6_check_12 : decode cX6_check 12 = .ok (.bipush 30, 2) := by decide +kernel
theorem dX6_check_14 : decode cX6_check 14 = .ok (.invokestatic 63, 3) := by decide +kernel
theorem dX6_check_17 : decode cX6_check 17 = .ok (.ifCond .eq 6, 3) := by decide +kernel
theorem dX6_check_20 : decode cX6_check 20 = .ok (.ldc 67, 2) := by decide +kernel
theorem dX6_check_22 : decode cX6_check 22 = .ok (.ireturn, 1) := by decide +kernel
theorem dX6_check_23 : decode cX6_check 23 = .ok (.aload_n 0, 1) := by decide +kernel
theorem dX6_check_24 : decode cX6_check 24 = .ok (.getfield 290, 3) := by decide +kernel
theorem dX6_check_27 : decode cX6_check 27 = .ok (.ifCond .ne 7, 3) := by decide +kernel
theorem dX6_check_30 : decode cX6_check 30 = .ok (.ldc_w 286, 3) := by decide +kernel
theorem dX6_check_33 : decode cX6_check 33 = .ok (.ireturn, 1) := by decide +kernel
theorem dX6_check_34 : decode cX6_check 34 = .ok (.iconst 2, 1) := by decide +kernel
theorem dX6_check_35 : decode cX6_check 35 = .ok (.iload_n 1, 1) := by decide +kernel
theorem dX6_check_36 : decode cX6_check 36 = .ok (.sipush 9999, 3) := by decide +kernel
theorem dX6_check_39 : decode cX6_check 39 = .ok (.aload_n 0, 1) := by decide +kernel
theorem dX6_check_40 : decode cX6_check 40 = .ok (.getfield 32, 3) := by decide +kernel
theorem dX6_check_43 : decode cX6_check 43 = .ok (.getfield 157, 3) := by decide +kernel
theorem dX6_check_46 : decode cX6_check 46 = .ok (.isub, 1) := by decide +kernel
theorem dX6_check_47 : decode cX6_check 47 = .ok (.invokestatic 143, 3) := by decide +kernel
theorem dX6_check_50 : decode cX6_check 50 = .ok (.imul, 1) := by decide +kernel
theorem dX6_check_51 : decode cX6_check 51 = .ok (.istore_n 3, 1) := by decide +kernel
theorem dX6_check_52 : decode cX6_check 52 = .ok (.aload_n 0, 1) := by decide +kernel
theorem dX6_check_53 : decode cX6_check 53 = .ok (.getfield 35, 3) := by decide +kernel
theorem dX6_check_56 : decode cX6_check 56 = .ok (.aload_n 0, 1) := by decide +kernel
theorem dX6_check_57 : decode cX6_check 57 = .ok (.getfield 32, 3) := by decide +kernel
theorem dX6_check_60 : decode cX6_check 60 = .ok (.invokevirtual 177, 3) := by decide +kernel
theorem dX6_check_63 : decode cX6_check 63 = .ok (.iconst 0, 1) := by decide +kernel
theorem dX6_check_64 : decode cX6_check 64 = .ok (.istore 4, 2) := by decide +kernel
theorem dX6_check_66 : decode cX6_check 66 = .ok (.iload 4, 2) := by decide +kernel
theorem dX6_check_68 : decode cX6_check 68 = .ok (.iload_n 2, 1) := by decide +kernel
theorem dX6_check_69 : decode cX6_check 69 = .ok (.if_icmp .ge 73, 3) := by decide +kernel
theorem dX6_check_72 : decode cX6_check 72 = .ok (.iload 4, 2) := by decide +kernel
theorem dX6_check_74 : decode cX6_check 74 = .ok (.iload_n 3, 1) := by decide +kernel
theorem dX6_check_75 : decode cX6_check 75 = .ok (.if_icmp .ge 67, 3) := by decide +kernel
theorem dX6_check_78 : decode cX6_check 78 = .ok (.iload 4, 2) := by decide +kernel
theorem dX6_check_80 : decode cX6_check 80 = .ok (.iconst 2, 1) := by decide +kernel
theorem dX6_check_81 : decode cX6_check 81 = .ok (.irem, 1) := by decide +kernel
theorem dX6_check_82 : decode cX6_check 82 = .ok (.ifCond .ne 11, 3) := by decide +kernel
theorem dX6_check_85 : decode cX6_check 85 = .ok (.aload_n 0, 1) := by decide +kernel
theorem dX6_check_86 : decode cX6_check 86 = .ok (.getfield 35, 3) := by decide +kernel
theorem dX6_check_89 : decode cX6_check 89 = .ok (.iconst 1, 1) := by decide +kernel
theorem dX6_check_90 : decode cX6_check 90 = .ok (.invokevirtual 160, 3) := by decide +kernel
theorem dX6_check_93 : decode cX6_check 93 = .ok (.iload 4, 2) := by decide +kernel
theorem dX6_check_95 : decode cX6_check 95 = .ok (.iconst 2, 1) := by decide +kernel
theorem dX6_check_96 : decode cX6_check 96 = .ok (.irem, 1) := by decide +kernel
theorem dX6_check_97 : decode cX6_check 97 = .ok (.ifCond .ne 13, 3) := by decide +kernel
theorem dX6_check_100 : decode cX6_check 100 = .ok (.aload_n 0, 1) := by decide +kernel
theorem dX6_check_101 : decode cX6_check 101 = .ok (.getfield 35, 3) := by decide +kernel
theorem dX6_check_104 : decode cX6_check 104 = .ok (.getfield 154, 3) := by decide +kernel
theorem dX6_check_107 : decode cX6_check 107 = .ok (.goto 10, 3) := by decide +kernel
theorem dX6_check_110 : decode cX6_check 110 = .ok (.aload_n 0, 1) := by decide +kernel
theorem dX6_check_111 : decode cX6_check 111 = .ok (.getfield 35, 3) := by decide +kernel
theorem dX6_check_114 : decode cX6_check 114 = .ok (.getfield 167, 3) := by decide +kernel
theorem dX6_check_117 : decode cX6_check 117 = .ok (.istore 5, 2) := by decide +kernel
theorem dX6_check_119 : decode cX6_check 119 = .ok (.aload_n 0, 1) := by decide +kernel
theorem dX6_check_120 : decode cX6_check 120 = .ok (.getfield 52, 3) := by decide +kernel
theorem dX6_check_123 : decode cX6_check 123 = .ok (.iload 4, 2) := by decide +kernel
theorem dX6_check_125 : decode cX6_check 125 = .ok (.iaload, 1) := by decide +kernel
theorem dX6_check_126 : decode cX6_check 126 = .ok (.iload 5, 2) := by decide +kernel
theorem dX6_check_128 : decode cX6_check 128 = .ok (.if_icmp .eq 8, 3) := by decide +kernel
theorem dX6_check_131 : decode cX6_check 131 = .ok (.iconst 1, 1) := by decide +kernel
theorem dX6_check_132 : decode cX6_check 132 = .ok (.iload 4, 2) := by decide +kernel
theorem dX6_check_134 : decode cX6_check 134 = .ok (.iadd, 1) := by decide +kernel
theorem dX6_check_135 : decode cX6_check 135 = .ok (.ireturn, 1) := by decide +kernel
theorem dX6_check_136 : decode cX6_check 136 = .ok (.iinc 4 1, 3) := by decide +kernel
theorem dX6_check_139 : decode cX6_check 139 = .ok (.goto (-73), 3) := by decide +kernel
theorem dX6_check_142 : decode cX6_check 142 = .ok (.iload_n 2, 1) := by decide +kernel
theorem dX6_check_143 : decode cX6_check 143 = .ok (.iload_n 3, 1) := by decide +kernel
theorem dX6_check_144 : decode cX6_check 144 = .ok (.if_icmp .ne 7, 3) := by decide +kernel
theorem dX6_check_147 : decode cX6_check 147 = .ok (.iconst 0, 1) := by decide +kernel
theorem dX6_check_148 : decode cX6_check 148 = .ok (.goto 10, 3) := by decide +kernel
theorem dX6_check_151 : decode cX6_check 151 = .ok (.iconst 1, 1) := by decide +kernel
theorem dX6_check_152 : decode cX6_check 152 = .ok (.iload_n 2, 1) := by decide +kernel
theorem dX6_check_153 : decode cX6_check 153 = .ok (.iload_n 3, 1) := by decide +kernel
theorem dX6_check_154 : decode cX6_check 154 = .ok (.invokestatic 143, 3) := by decide +kernel
theorem dX6_check_157 : decode cX6_check 157 = .ok (.iadd, 1) := by decide +kernel
theorem dX6_check_158 : decode cX6_check 158 = .ok (.ireturn, 1) := by decide +kernel
theorem dX6_keep_0 : decode cX6_keep 0 = .ok (.aload_n 0, 1) := by decide +kernel
theorem dX6_keep_1 : decode cX6_keep 1 = .ok (.getfield 32, 3) := by decide +kernel
theorem dX6_keep_4 : decode cX6_keep 4 = .ok (.aload_n 0, 1) := by decide +kernel
theorem dX6_keep_5 : decode cX6_keep 5 = .ok (.getfield 28, 3) := by decide +kernel
theorem dX6_keep_8 : decode cX6_keep 8 = .ok (.invokevirtual 177, 3) := by decide +kernel
theorem dX6_keep_11 : decode cX6_keep 11 = .ok (.aload_n 0, 1) := by decide +kernel
theorem dX6_keep_12 : decode cX6_keep 12 = .ok (.iconst 1, 1) := by decide +kernel
theorem dX6_keep_13 : decode cX6_keep 13 = .ok (.putfield 290, 3) := by decide +kernel
theorem dX6_keep_16 : decode cX6_keep 16 = .ok (.aload_n 0, 1) := by decide +kernel
theorem dX6_keep_17 : decode cX6_keep 17 = .ok (.getfield 28, 3) := by decide +kernel
theorem dX6_keep_20 : decode cX6_keep 20 = .ok (.getfield 68, 3) := by decide +kernel
theorem dX6_keep_23 : decode cX6_keep 23 = .ok (.ireturn, 1) := by decide +kernel
theorem dX6_back_0 : decode cX6_back 0 = .ok (.aload_n 0, 1) := by decide +kernel
theorem dX6_back_1 : decode cX6_back 1 = .ok (.getfield 290, 3) := by decide +kernel
theorem dX6_back_4 : decode cX6_back 4 = .ok (.ifCond .ne 7, 3) := by decide +kernel
theorem dX6_back_7 : decode cX6_back 7 = .ok (.ldc_w 286, 3) := by decide +kernel
theorem dX6_back_10 : decode cX6_back 10 = .ok (.ireturn, 1) := by decide +kernel
theorem dX6_back_11 : decode cX6_back 11 = .ok (.aload_n 0, 1) := by decide +kernel
theorem dX6_back_12 : decode cX6_back 12 = .ok (.getfield 28, 3) := by decide +kernel
theorem dX6_back_15 : decode cX6_back 15 = .ok (.aload_n 0, 1) := by decide +kernel
theorem dX6_back_16 : decode cX6_back 16 = .ok (.getfield 32, 3) := by decide +kernel
theorem dX6_back_19 : decode cX6_back 19 = .ok (.invokevirtual 177, 3) := by decide +kernel
theorem dX6_back_22 : decode cX6_back 22 = .ok (.aload_n 0, 1) := by decide +kernel
theorem dX6_back_23 : decode cX6_back 23 = .ok (.getfield 28, 3) := by decide +kernel
theorem dX6_back_26 : decode cX6_back 26 = .ok (.getfield 68, 3) := by decide +kernel
theorem dX6_back_29 : decode cX6_back 29 = .ok (.ireturn, 1) := by decide +kernel
theorem dX6_count_0 : decode cX6_count 0 = .ok (.iload_n 1, 1) := by decide +kernel
theorem dX6_count_1 : decode cX6_count 1 = .ok (.tableswitch 120 0 8 #[51, 59, 67, 75, 83, 91, 99, 104, 112], 51) := by decide +kernel
theorem dX6_count_52 : decode cX6_count 52 = .ok (.aload_n 0, 1) := by decide +kernel
theorem dX6_count_53 : decode cX6_count 53 = .ok (.getfield 28, 3) := by decide +kernel
theorem dX6_count_56 : decode cX6_count 56 = .ok (.getfield 68, 3) := by decide +kernel
theorem dX6_count_59 : decode cX6_count 59 = .ok (.ireturn, 1) := by decide +kernel
theorem dX6_count_60 : decode cX6_count 60 = .ok (.aload_n 0, 1) := by decide +kernel
theorem dX6_count_61 : decode cX6_count 61 = .ok (.getfield 28, 3) := by decide +kernel
theorem dX6_count_64 : decode cX6_count 64 = .ok (.getfield 157, 3) := by decide +kernel
theorem dX6_count_67 : decode cX6_count 67 = .ok (.ireturn, 1) := by decide +kernel
theorem dX6_count_68 : decode cX6_count 68 = .ok (.aload_n 0, 1) := by decide +kernel
theorem dX6_count_69 : decode cX6_count 69 = .ok (.getfield 28, 3) := by decide +kernel
theorem dX6_count_72 : decode cX6_count 72 = .ok (.getfield 154, 3) := by decide +kernel
theorem dX6_count_75 : decode cX6_count 75 = .ok (.ireturn, 1) := by decide +kernel
theorem dX6_count_76 : decode cX6_count 76 = .ok (.aload_n 0, 1) := by decide +kernel
theorem dX6_count_77 : decode cX6_count 77 = .ok (.getfield 28, 3) := by decide +kernel
theorem dX6_count_80 : decode cX6_count 80 = .ok (.getfield 164, 3) := by decide +kernel
theorem dX6_count_83 : decode cX6_count 83 = .ok (.ireturn, 1) := by decide +kernel
theorem dX6_count_84 : decode cX6_count 84 = .ok (.aload_n 0, 1) := by decide +kernel
theorem dX6_count_85 : decode cX6_count 85 = .ok (.getfield 28, 3) := by decide +kernel
theorem dX6_count_88 : decode cX6_count 88 = .ok (.getfield 167, 3) := by decide +kernel
theorem dX6_count_91 : decode cX6_count 91 = .ok (.ireturn, 1) := by decide +kernel
theorem dX6_count_92 : decode cX6_count 92 = .ok (.aload_n 0, 1) := by decide +kernel
theorem dX6_count_93 : decode cX6_count 93 = .ok (.getfield 28, 3) := by decide +kernel
theorem dX6_count_96 : decode cX6_count 96 = .ok (.getfield 227, 3) := by decide +kernel
theorem dX6_count_99 : decode cX6_count 99 = .ok (.ireturn, 1) := by decide +kernel
theorem dX6_count_100 : decode cX6_count 100 = .ok (.aload_n 0, 1) := by decide +kernel
theorem dX6_count_101 : decode cX6_count 101 = .ok (.getfield 287, 3) := by decide +kernel
theorem dX6_count_104 : decode cX6_count 104 = .ok (.ireturn, 1) := by decide +kernel
theorem dX6_count_105 : decode cX6_count 105 = .ok (.aload_n 0, 1) := by decide +kernel
theorem dX6_count_106 : decode cX6_count 106 = .ok (.getfield 19, 3) := by decide +kernel
theorem dX6_count_109 : decode cX6_count 109 = .ok (.getfield 218, 3) := by decide +kernel
theorem dX6_count_112 : decode cX6_count 112 = .ok (.ireturn, 1) := by decide +kernel
theorem dX6_count_113 : decode cX6_count 113 = .ok (.aload_n 0, 1) := by decide +kernel
theorem dX6_count_114 : decode cX6_count 114 = .ok (.getfield 28, 3) := by decide +kernel
theorem dX6_count_117 : decode cX6_count 117 = .ok (.getfield 151, 3) := by decide +kernel
theorem dX6_count_120 : decode cX6_count 120 = .ok (.ireturn, 1) := by decide +kernel
theorem dX6_count_121 : decode cX6_count 121 = .ok (.ldc 67, 2) := by decide +kernel
theorem dX6_count_123 : decode cX6_count 123 = .ok (.ireturn, 1) := by decide +kernel
theorem dX6_outside_0 : decode cX6_outside 0 = .ok (.iload_n 0, 1) := by decide +kernel
theorem dX6_outside_1 : decode cX6_outside 1 = .ok (.iload_n 1, 1) := by decide +kernel
theorem dX6_outside_2 : decode cX6_outside 2 = .ok (.if_icmp .lt 8, 3) := by decide +kernel
theorem dX6_outside_5 : decode cX6_outside 5 = .ok (.iload_n 0, 1) := by decide +kernel
theorem dX6_outside_6 : decode cX6_outside 6 = .ok (.iload_n 2, 1) := by decide +kernel
theorem dX6_outside_7 : decode cX6_outside 7 = .ok (.if_icmp .le 7, 3) := by decide +kernel
theorem dX6_outside_10 : decode cX6_outside 10 = .ok (.iconst 1, 1) := by decide +kernel
theorem dX6_outside_11 : decode cX6_outside 11 = .ok (.goto 4, 3) := by decide +kernel
theorem dX6_outside_14 : decode cX6_outside 14 = .ok (.iconst 0, 1) := by decide +kernel
theorem dX6_outside_15 : decode cX6_outside 15 = .ok (.ireturn, 1) := by decide +kernel
theorem dX6_within_0 : decode cX6_within 0 = .ok (.iload_n 1, 1) := by decide +kernel
theorem dX6_within_1 : decode cX6_within 1 = .ok (.iload_n 2, 1) := by decide +kernel
theorem dX6_within_2 : decode cX6_within 2 = .ok (.iload_n 0, 1) := by decide +kernel
theorem dX6_within_3 : decode cX6_within 3 = .ok (.invokestatic 143, 3) := by decide +kernel
theorem dX6_within_6 : decode cX6_within 6 = .ok (.invokestatic 294, 3) := by decide +kernel
theorem dX6_within_9 : decode cX6_within 9 = .ok (.ireturn, 1) := by decide +kernel
theorem dX6_noKind_0 : decode cX6_noKind 0 = .ok (.iload_n 0, 1) := by decide +kernel
theorem dX6_noKind_1 : decode cX6_noKind 1 = .ok (.iconst 0, 1) := by decide +kernel
theorem dX6_noKind_2 : decode cX6_noKind 2 = .ok (.iconst 5, 1) := by decide +kernel
theorem dX6_noKind_3 : decode cX6_noKind 3 = .ok (.invokestatic 63, 3) := by decide +kernel
theorem dX6_noKind_6 : decode cX6_noKind 6 = .ok (.ireturn, 1) := by decide +kernel
theorem dX6_noField_0 : decode cX6_noField 0 = .ok (.iload_n 0, 1) := by decide +kernel
theorem dX6_noField_1 : decode cX6_noField 1 = .ok (.iconst 0, 1) := by decide +kernel
theorem dX6_noField_2 : decode cX6_noField 2 = .ok (.iconst 5, 1) := by decide +kernel
theorem dX6_noField_3 : decode cX6_noField 3 = .ok (.invokestatic 63, 3) := by decide +kernel
theorem dX6_noField_6 : decode cX6_noField 6 = .ok (.ireturn, 1) := by decide +kernel
theorem dX6_noSheet_0 : decode cX6_noSheet 0 = .ok (.iload_n 0, 1) := by decide +kernel
theorem dX6_noSheet_1 : decode cX6_noSheet 1 = .ok (.iconst 0, 1) := by decide +kernel
theorem dX6_noSheet_2 : decode cX6_noSheet 2 = .ok (.iconst 3, 1) := by decide +kernel
theorem dX6_noSheet_3 : decode cX6_noSheet 3 = .ok (.invokestatic 63, 3) := by decide +kernel
theorem dX6_noSheet_6 : decode cX6_noSheet 6 = .ok (.ireturn, 1) := by decide +kernel
theorem dX6_noSlot_0 : decode cX6_noSlot 0 = .ok (.iload_n 0, 1) := by decide +kernel
theorem dX6_noSlot_1 : decode cX6_noSlot 1 = .ok (.iconst 0, 1) := by decide +kernel
theorem dX6_noSlot_2 : decode cX6_noSlot 2 = .ok (.iconst 4, 1) := by decide +kernel
theorem dX6_noSlot_3 : decode cX6_noSlot 3 = .ok (.invokestatic 63, 3) := by decide +kernel
theorem dX6_noSlot_6 : decode cX6_noSlot 6 = .ok (.ireturn, 1) := by decide +kernel
theorem dX6_noPerson_0 : decode cX6_noPerson 0 = .ok (.iload_n 1, 1) := by decide +kernel
theorem dX6_noPerson_1 : decode cX6_noPerson 1 = .ok (.iconst 0, 1) := by decide +kernel
theorem dX6_noPerson_2 : decode cX6_noPerson 2 = .ok (.aload_n 0, 1) := by decide +kernel
theorem dX6_noPerson_3 : decode cX6_noPerson 3 = .ok (.getfield 28, 3) := by decide +kernel
theorem dX6_noPerson_6 : decode cX6_noPerson 6 = .ok (.getfield 68, 3) := by decide +kernel
theorem dX6_noPerson_9 : decode cX6_noPerson 9 = .ok (.iconst 1, 1) := by decide +kernel
theorem dX6_noPerson_10 : decode cX6_noPerson 10 = .ok (.isub, 1) := by decide +kernel
theorem dX6_noPerson_11 : decode cX6_noPerson 11 = .ok (.invokestatic 63, 3) := by decide +kernel
theorem dX6_noPerson_14 : decode cX6_noPerson 14 = .ok (.ireturn, 1) := by decide +kernel
theorem dX6_isOf_0 : decode cX6_isOf 0 = .ok (.iload_n 0, 1) := by decide +kernel
theorem dX6_isOf_1 : decode cX6_isOf 1 = .ok (.istore_n 2, 1) := by decide +kernel
theorem dX6_isOf_2 : decode cX6_isOf 2 = .ok (.iconst 0, 1) := by decide +kernel
theorem dX6_isOf_3 : decode cX6_isOf 3 = .ok (.istore_n 3, 1) := by decide +kernel
theorem dX6_isOf_4 : decode cX6_isOf 4 = .ok (.iload_n 3, 1) := by decide +kernel
theorem dX6_isOf_5 : decode cX6_isOf 5 = .ok (.bipush 6, 2) := by decide +kernel
theorem dX6_isOf_7 : decode cX6_isOf 7 = .ok (.if_icmp .ge 26, 3) := by decide +kernel
theorem dX6_isOf_10 : decode cX6_isOf 10 = .ok (.iload_n 2, 1) := by decide +kernel
theorem dX6_isOf_11 : decode cX6_isOf 11 = .ok (.ifCond .lt 22, 3) := by decide +kernel
theorem dX6_isOf_14 : decode cX6_isOf 14 = .ok (.iload_n 2, 1) := by decide +kernel
theorem dX6_isOf_15 : decode cX6_isOf 15 = .ok (.iload_n 1, 1) := by decide +kernel
theorem dX6_isOf_16 : decode cX6_isOf 16 = .ok (.if_icmp .ne 5, 3) := by decide +kernel
theorem dX6_isOf_19 : decode cX6_isOf 19 = .ok (.iconst 1, 1) := by decide +kernel
theorem dX6_isOf_20 : decode cX6_isOf 20 = .ok (.ireturn, 1) := by decide +kernel
theorem dX6_isOf_21 : decode cX6_isOf 21 = .ok (.getstatic 297, 3) := by decide +kernel
theorem dX6_isOf_24 : decode cX6_isOf 24 = .ok (.iload_n 2, 1) := by decide +kernel
theorem dX6_isOf_25 : decode cX6_isOf 25 = .ok (.iaload, 1) := by decide +kernel
theorem dX6_isOf_26 : decode cX6_isOf 26 = .ok (.istore_n 2, 1) := by decide +kernel
theorem dX6_isOf_27 : decode cX6_isOf 27 = .ok (.iinc 3 1, 3) := by decide +kernel
theorem dX6_isOf_30 : decode cX6_isOf 30 = .ok (.goto (-26), 3) := by decide +kernel
theorem dX6_isOf_33 : decode cX6_isOf 33 = .ok (.iconst 0, 1) := by decide +kernel
theorem dX6_isOf_34 : decode cX6_isOf 34 = .ok (.ireturn, 1) := by decide +kernel
theorem dX6_replaced_0 : decode cX6_replaced 0 = .ok (.iload_n 2, 1) := by decide +kernel
theorem dX6_replaced_1 : decode cX6_replaced 1 = .ok (.iconst 0, 1) := by decide +kernel
theorem dX6_replaced_2 : decode cX6_replaced 2 = .ok (.iload_n 3, 1) := by decide +kernel
theorem dX6_replaced_3 : decode cX6_replaced 3 = .ok (.invokestatic 63, 3) := by decide +kernel
theorem dX6_replaced_6 : decode cX6_replaced 6 = .ok (.ifCond .eq 6, 3) := by decide +kernel
theorem dX6_replaced_9 : decode cX6_replaced 9 = .ok (.ldc 67, 2) := by decide +kernel
theorem dX6_replaced_11 : decode cX6_replaced 11 = .ok (.ireturn, 1) := by decide +kernel
theorem dX6_replaced_12 : decode cX6_replaced 12 = .ok (.aload_n 0, 1) := by decide +kernel
theorem dX6_replaced_13 : decode cX6_replaced 13 = .ok (.iload_n 1, 1) := by decide +kernel
theorem dX6_replaced_14 : decode cX6_replaced 14 = .ok (.iaload, 1) := by decide +kernel
theorem dX6_replaced_15 : decode cX6_replaced 15 = .ok (.istore 4, 2) := by decide +kernel
theorem dX6_replaced_17 : decode cX6_replaced 17 = .ok (.aload_n 0, 1) := by decide +kernel
theorem dX6_replaced_18 : decode cX6_replaced 18 = .ok (.iload_n 1, 1) := by decide +kernel
theorem dX6_replaced_19 : decode cX6_replaced 19 = .ok (.iload_n 2, 1) := by decide +kernel
theorem dX6_replaced_20 : decode cX6_replaced 20 = .ok (.iastore, 1) := by decide +kernel
theorem dX6_replaced_21 : decode cX6_replaced 21 = .ok (.iload 4, 2) := by decide +kernel
theorem dX6_replaced_23 : decode cX6_replaced 23 = .ok (.ireturn, 1) := by decide +kernel
theorem dX6_tryTelling_0 : decode cX6_tryTelling 0 = .ok (.aload_n 0, 1) := by decide +kernel
theorem dX6_tryTelling_1 : decode cX6_tryTelling 1 = .ok (.getfield 35, 3) := by decide +kernel
theorem dX6_tryTelling_4 : decode cX6_tryTelling 4 = .ok (.aload_n 0, 1) := by decide +kernel
theorem dX6_tryTelling_5 : decode cX6_tryTelling 5 = .ok (.getfield 28, 3) := by decide +kernel
theorem dX6_tryTelling_8 : decode cX6_tryTelling 8 = .ok (.invokevirtual 177, 3) := by decide +kernel
theorem dX6_tryTelling_11 : decode cX6_tryTelling 11 = .ok (.iconst 0, 1) := by decide +kernel
theorem dX6_tryTelling_12 : decode cX6_tryTelling 12 = .ok (.istore 4, 2) := by decide +kernel
theorem dX6_tryTelling_14 : decode cX6_tryTelling 14 = .ok (.iload 4, 2) := by decide +kernel
theorem dX6_tryTelling_16 : decode cX6_tryTelling 16 = .ok (.aload_n 0, 1) := by decide +kernel
theorem dX6_tryTelling_17 : decode cX6_tryTelling 17 = .ok (.getfield 28, 3) := by decide +kernel
theorem dX6_tryTelling_20 : decode cX6_tryTelling 20 = .ok (.getfield 68, 3) := by decide +kernel
theorem dX6_tryTelling_23 : decode cX6_tryTelling 23 = .ok (.if_icmp .ge 42, 3) := by decide +kernel
theorem dX6_tryTelling_26 : decode cX6_tryTelling 26 = .ok (.iload_n 1, 1) := by decide +kernel
theorem dX6_tryTelling_27 : decode cX6_tryTelling 27 = .ok (.iload 4, 2) := by decide +kernel
theorem dX6_tryTelling_29 : decode cX6_tryTelling 29 = .ok (.ishr, 1) := by decide +kernel
theorem dX6_tryTelling_30 : decode cX6_tryTelling 30 = .ok (.iconst 1, 1) := by decide +kernel
theorem dX6_tryTelling_31 : decode cX6_tryTelling 31 = .ok (.iand, 1) := by decide +kernel
theorem dX6_tryTelling_32 : decode cX6_tryTelling 32 = .ok (.iconst 1, 1) := by decide +kernel
theorem dX6_tryTelling_33 : decode cX6_tryTelling 33 = .ok (.if_icmp .ne 26, 3) := by decide +kernel
theorem dX6_tryTelling_36 : decode cX6_tryTelling 36 = .ok (.aload_n 0, 1) := by decide +kernel
theorem dX6_tryTelling_37 : decode cX6_tryTelling 37 = .ok (.getfield 35, 3) := by decide +kernel
theorem dX6_tryTelling_40 : decode cX6_tryTelling 40 = .ok (.iload 4, 2) := by decide +kernel
theorem dX6_tryTelling_42 : decode cX6_tryTelling 42 = .ok (.iload_n 2, 1) := by decide +kernel
theorem dX6_tryTelling_43 : decode cX6_tryTelling 43 = .ok (.iload_n 3, 1) := by decide +kernel
theorem dX6_tryTelling_44 : decode cX6_tryTelling 44 = .ok (.invokevirtual 118, 3) := by decide +kernel
theorem dX6_tryTelling_47 : decode cX6_tryTelling 47 = .ok (.aload_n 0, 1) := by decide +kernel
theorem dX6_tryTelling_48 : decode cX6_tryTelling 48 = .ok (.getfield 35, 3) := by decide +kernel
theorem dX6_tryTelling_51 : decode cX6_tryTelling 51 = .ok (.getfield 89, 3) := by decide +kernel
theorem dX6_tryTelling_54 : decode cX6_tryTelling 54 = .ok (.iload 4, 2) := by decide +kernel
theorem dX6_tryTelling_56 : decode cX6_tryTelling 56 = .ok (.bipush 99, 2) := by decide +kernel
theorem dX6_tryTelling_58 : decode cX6_tryTelling 58 = .ok (.iastore, 1) := by decide +kernel
theorem dX6_tryTelling_59 : decode cX6_tryTelling 59 = .ok (.iinc 4 1, 3) := by decide +kernel
theorem dX6_tryTelling_62 : decode cX6_tryTelling 62 = .ok (.goto (-48), 3) := by decide +kernel
theorem dX6_tryTelling_65 : decode cX6_tryTelling 65 = .ok (.return_, 1) := by decide +kernel
theorem dX6_addDifferences_0 : decode cX6_addDifferences 0 = .ok (.iconst 0, 1) := by decide +kernel
theorem dX6_addDifferences_1 : decode cX6_addDifferences 1 = .ok (.istore_n 2, 1) := by decide +kernel
theorem dX6_addDifferences_2 : decode cX6_addDifferences 2 = .ok (.iload_n 2, 1) := by decide +kernel
theorem dX6_addDifferences_3 : decode cX6_addDifferences 3 = .ok (.bipush 6, 2) := by decide +kernel
theorem dX6_addDifferences_5 : decode cX6_addDifferences 5 = .ok (.if_icmp .ge 31, 3) := by decide +kernel
theorem dX6_addDifferences_8 : decode cX6_addDifferences 8 = .ok (.aload_n 0, 1) := by decide +kernel
theorem dX6_addDifferences_9 : decode cX6_addDifferences 9 = .ok (.getfield 56, 3) := by decide +kernel
theorem dX6_addDifferences_12 : decode cX6_addDifferences 12 = .ok (.iload_n 2, 1) := by decide +kernel
theorem dX6_addDifferences_13 : decode cX6_addDifferences 13 = .ok (.dup2, 1) := by decide +kernel
theorem dX6_addDifferences_14 : decode cX6_addDifferences 14 = .ok (.iaload, 1) := by decide +kernel
theorem dX6_addDifferences_15 : decode cX6_addDifferences 15 = .ok (.aload_n 0, 1) := by decide +kernel
theorem dX6_addDifferences_16 : decode cX6_addDifferences 16 = .ok (.getfield 35, 3) := by decide +kernel
theorem dX6_addDifferences_19 : decode cX6_addDifferences 19 = .ok (.iload_n 2, 1) := by decide +kernel
theorem dX6_addDifferences_20 : decode cX6_addDifferences 20 = .ok (.invokevirtual 131, 3) := by decide +kernel
theorem dX6_addDifferences_23 : decode cX6_addDifferences 23 = .ok (.iload_n 1, 1) := by decide +kernel
theorem dX6_addDifferences_24 : decode cX6_addDifferences 24 = .ok (.isub, 1) := by decide +kernel
theorem dX6_addDifferences_25 : decode cX6_addDifferences 25 = .ok (.invokestatic 300, 3) := by decide +kernel
theorem dX6_addDifferences_28 : decode cX6_addDifferences 28 = .ok (.iadd, 1) := by decide +kernel
theorem dX6_addDifferences_29 : decode cX6_addDifferences 29 = .ok (.iastore, 1) := by decide +kernel
theorem dX6_addDifferences_30 : decode cX6_addDifferences 30 = .ok (.iinc 2 1, 3) := by decide +kernel
theorem dX6_addDifferences_33 : decode cX6_addDifferences 33 = .ok (.goto (-31), 3) := by decide +kernel
theorem dX6_addDifferences_36 : decode cX6_addDifferences 36 = .ok (.return_, 1) := by decide +kernel
theorem dX7_init_0 : decode cX7_init 0 = .ok (.aload_n 0, 1) := by decide +kernel
theorem dX7_init_1 : decode cX7_init 1 = .ok (.invokespecial 1, 3) := by decide +kernel
theorem dX7_init_4 : decode cX7_init 4 = .ok (.aload_n 0, 1) := by decide +kernel
theorem dX7_init_5 : decode cX7_init 5 = .ok (.sipush 1471, 3) := by decide +kernel
theorem dX7_init_8 : decode cX7_init 8 = .ok (.newarray .int, 2) := by decide +kernel
theorem dX7_init_10 : decode cX7_init 10 = .ok (.putfield 9, 3) := by decide +kernel
theorem dX7_init_13 : decode cX7_init 13 = .ok (.aload_n 0, 1) := by decide +kernel
theorem dX7_init_14 : decode cX7_init 14 = .ok (.sipush 1471, 3) := by decide +kernel
theorem dX7_init_17 : decode cX7_init 17 = .ok (.newarray .int, 2) := by decide +kernel
theorem dX7_init_19 : decode cX7_init 19 = .ok (.putfield 13, 3) := by decide +kernel
theorem dX7_init_22 : decode cX7_init 22 = .ok (.aload_n 0, 1) := by decide +kernel
theorem dX7_init_23 : decode cX7_init 23 = .ok (.sipush 1471, 3) := by decide +kernel
theorem dX7_init_26 : decode cX7_init 26 = .ok (.newarray .int, 2) := by decide +kernel
theorem dX7_init_28 : decode cX7_init 28 = .ok (.putfield 16, 3) := by decide +kernel
theorem dX7_init_31 : decode cX7_init 31 = .ok (.aload_n 0, 1) := by decide +kernel
theorem dX7_init_32 : decode cX7_init 32 = .ok (.bipush 6, 2) := by decide +kernel
theorem dX7_init_34 : decode cX7_init 34 = .ok (.newarray .int, 2) := by decide +kernel
theorem dX7_init_36 : decode cX7_init 36 = .ok (.putfield 19, 3) := by decide +kernel
theorem dX7_init_39 : decode cX7_init 39 = .ok (.aload_n 0, 1) := by decide +kernel
theorem dX7_init_40 : decode cX7_init 40 = .ok (.bipush 96, 2) := by decide +kernel
theorem dX7_init_42 : decode cX7_init 42 = .ok (.newarray .int, 2) := by decide +kernel
theorem dX7_init_44 : decode cX7_init 44 = .ok (.putfield 22, 3) := by decide +kernel
theorem dX7_init_47 : decode cX7_init 47 = .ok (.aload_n 0, 1) := by decide +kernel
theorem dX7_init_48 : decode cX7_init 48 = .ok (.bipush 11, 2) := by decide +kernel
theorem dX7_init_50 : decode cX7_init 50 = .ok (.newarray .char, 2) := by decide +kernel
theorem dX7_init_52 : decode cX7_init 52 = .ok (.dup, 1) := by decide +kernel
theorem dX7_init_53 : decode cX7_init 53 = .ok (.iconst 0, 1) := by decide +kernel
theorem dX7_init_54 : decode cX7_init 54 = .ok (.bipush 119, 2) := by decide +kernel
theorem dX7_init_56 : decode cX7_init 56 = .ok (.castore, 1) := by decide +kernel
theorem dX7_init_57 : decode cX7_init 57 = .ok (.dup, 1) := by decide +kernel
theorem dX7_init_58 : decode cX7_init 58 = .ok (.iconst 1, 1) := by decide +kernel
theorem dX7_init_59 : decode cX7_init 59 = .ok (.bipush 97, 2) := by decide +kernel
theorem dX7_init_61 : decode cX7_init 61 = .ok (.castore, 1) := by decide +kernel
theorem dX7_init_62 : decode cX7_init 62 = .ok (.dup, 1) := by decide +kernel
theorem dX7_init_63 : decode cX7_init 63 = .ok (.iconst 2, 1) := by decide +kernel
theorem dX7_init_64 : decode cX7_init 64 = .ok (.bipush 110, 2) := by decide +kernel
theorem dX7_init_66 : decode cX7_init 66 = .ok (.castore, 1) := by decide +kernel
theorem dX7_init_67 : decode cX7_init 67 = .ok (.dup, 1) := by decide +kernel
theorem dX7_init_68 : decode cX7_init 68 = .ok (.iconst 3, 1) := by decide +kernel
theorem dX7_init_69 : decode cX7_init 69 = .ok (.bipush 116, 2) := by decide +kernel
theorem dX7_init_71 : decode cX7_init 71 = .ok (.castore, 1) := by decide +kernel
theorem dX7_init_72 : decode cX7_init 72 = .ok (.dup, 1) := by decide +kernel
theorem dX7_init_73 : decode cX7_init 73 = .ok (.iconst 4, 1) := by decide +kernel
theorem dX7_init_74 : decode cX7_init 74 = .ok (.bipush 102, 2) := by decide +kernel
theorem dX7_init_76 : decode cX7_init 76 = .ok (.castore, 1) := by decide +kernel
theorem dX7_init_77 : decode cX7_init 77 = .ok (.dup, 1) := by decide +kernel
theorem dX7_init_78 : decode cX7_init 78 = .ok (.iconst 5, 1) := by decide +kernel
theorem dX7_init_79 : decode cX7_init 79 = .ok (.bipush 101, 2) := by decide +kernel
theorem dX7_init_81 : decode cX7_init 81 = .ok (.castore, 1) := by decide +kernel
theorem dX7_init_82 : decode cX7_init 82 = .ok (.dup, 1) := by decide +kernel
theorem dX7_init_83 : decode cX7_init 83 = .ok (.bipush 6, 2) := by decide +kernel
theorem dX7_init_85 : decode cX7_init 85 = .ok (.bipush 101, 2) := by decide +kernel
theorem dX7_init_87 : decode cX7_init 87 = .ok (.castore, 1) := by decide +kernel
theorem dX7_init_88 : decode cX7_init 88 = .ok (.dup, 1) := by decide +kernel
theorem dX7_init_89 : decode cX7_init 89 = .ok (.bipush 7, 2) := by decide +kernel
theorem dX7_init_91 : decode cX7_init 91 = .ok (.bipush 102, 2) := by decide +kernel
theorem dX7_init_93 : decode cX7_init 93 = .ok (.castore, 1) := by decide +kernel
theorem dX7_init_94 : decode cX7_init 94 = .ok (.dup, 1) := by decide +kernel
theorem dX7_init_95 : decode cX7_init 95 = .ok (.bipush 8, 2) := by decide +kernel
theorem dX7_init_97 : decode cX7_init 97 = .ok (.bipush 105, 2) := by decide +kernel
theorem dX7_init_99 : decode cX7_init 99 = .ok (.castore, 1) := by decide +kernel
theorem dX7_init_100 : decode cX7_init 100 = .ok (.dup, 1) := by decide +kernel
theorem dX7_init_101 : decode cX7_init 101 = .ok (.bipush 9, 2) := by decide +kernel
theorem dX7_init_103 : decode cX7_init 103 = .ok (.bipush 110, 2) := by decide +kernel
theorem dX7_init_105 : decode cX7_init 105 = .ok (.castore, 1) := by decide +kernel
theorem dX7_init_106 : decode cX7_init 106 = .ok (.dup, 1) := by decide +kernel
theorem dX7_init_107 : decode cX7_init 107 = .ok (.bipush 10, 2) := by decide +kernel
theorem dX7_init_109 : decode cX7_init 109 = .ok (.bipush 101, 2) := by decide +kernel
theorem dX7_init_111 : decode cX7_init 111 = .ok (.castore, 1) := by decide +kernel
theorem dX7_init_112 : decode cX7_init 112 = .ok (.putfield 25, 3) := by decide +kernel
theorem dX7_init_115 : decode cX7_init 115 = .ok (.aload_n 0, 1) := by decide +kernel
theorem dX7_init_116 : decode cX7_init 116 = .ok (.iconst 4, 1) := by decide +kernel
theorem dX7_init_117 : decode cX7_init 117 = .ok (.newarray .int, 2) := by decide +kernel
theorem dX7_init_119 : decode cX7_init 119 = .ok (.dup, 1) := by decide +kernel
theorem dX7_init_120 : decode cX7_init 120 = .ok (.iconst 0, 1) := by decide +kernel
theorem dX7_init_121 : decode cX7_init 121 = .ok (.iconst 0, 1) := by decide +kernel
theorem dX7_init_122 : decode cX7_init 122 = .ok (.iastore, 1) := by decide +kernel
theorem dX7_init_123 : decode cX7_init 123 = .ok (.dup, 1) := by decide +kernel
theorem dX7_init_124 : decode cX7_init 124 = .ok (.iconst 1, 1) := by decide +kernel
theorem dX7_init_125 : decode cX7_init 125 = .ok (.iconst 4, 1) := by decide +kernel
theorem dX7_init_126 : decode cX7_init 126 = .ok (.iastore, 1) := by decide +kernel
theorem dX7_init_127 : decode cX7_init 127 = .ok (.dup, 1) := by decide +kernel
theorem dX7_init_128 : decode cX7_init 128 = .ok (.iconst 2, 1) := by decide +kernel
theorem dX7_init_129 : decode cX7_init 129 = .ok (.bipush 7, 2) := by decide +kernel
theorem dX7_init_131 : decode cX7_init 131 = .ok (.iastore, 1) := by decide +kernel
theorem dX7_init_132 : decode cX7_init 132 = .ok (.dup, 1) := by decide +kernel
theorem dX7_init_133 : decode cX7_init 133 = .ok (.iconst 3, 1) := by decide +kernel
theorem dX7_init_134 : decode cX7_init 134 = .ok (.bipush 11, 2) := by decide +kernel
theorem dX7_init_136 : decode cX7_init 136 = .ok (.iastore, 1) := by decide +kernel
theorem dX7_init_137 : decode cX7_init 137 = .ok (.putfield 29, 3) := by decide +kernel
theorem dX7_init_140 : decode cX7_init 140 = .ok (.aload_n 0, 1) := by decide +kernel
theorem dX7_init_141 : decode cX7_init 141 = .ok (.bipush 96, 2) := by decide +kernel
theorem dX7_init_143 : decode cX7_init 143 = .ok (.newarray .int, 2) := by decide +kernel
theorem dX7_init_145 : decode cX7_init 145 = .ok (.putfield 32, 3) := by decide +kernel
theorem dX7_init_148 : decode cX7_init 148 = .ok (.aload_n 0, 1) := by decide +kernel
theorem dX7_init_149 : decode cX7_init 149 = .ok (.bipush 96, 2) := by decide +kernel
theorem dX7_init_151 : decode cX7_init 151 = .ok (.newarray .int, 2) := by decide +kernel
theorem dX7_init_153 : decode cX7_init 153 = .ok (.putfield 35, 3) := by decide +kernel
theorem dX7_init_156 : decode cX7_init 156 = .ok (.aload_n 0, 1) := by decide +kernel
theorem dX7_init_157 : decode cX7_init 157 = .ok (.bipush 10, 2) := by decide +kernel
theorem dX7_init_159 : decode cX7_init 159 = .ok (.newarray .boolean, 2) := by decide +kernel
theorem dX7_init_161 : decode cX7_init 161 = .ok (.putfield 38, 3) := by decide +kernel
theorem dX7_init_164 : decode cX7_init 164 = .ok (.aload_n 0, 1) := by decide +kernel
theorem dX7_init_165 : decode cX7_init 165 = .ok (.bipush 96, 2) := by decide +kernel
theorem dX7_init_167 : decode cX7_init 167 = .ok (.newarray .int, 2) := by decide +kernel
theorem dX7_init_169 : decode cX7_init 169 = .ok (.putfield 42, 3) := by decide +kernel
theorem dX7_init_172 : decode cX7_init 172 = .ok (.aload_n 0, 1) := by decide +kernel
theorem dX7_init_173 : decode cX7_init 173 = .ok (.iconst 4, 1) := by decide +kernel
theorem dX7_init_174 : decode cX7_init 174 = .ok (.newarray .int, 2) := by decide +kernel
theorem dX7_init_176 : decode cX7_init 176 = .ok (.putfield 45, 3) := by decide +kernel
theorem dX7_init_179 : decode cX7_init 179 = .ok (.aload_n 0, 1) := by decide +kernel
theorem dX7_init_180 : decode cX7_init 180 = .ok (.iconst 4, 1) := by decide +kernel
theorem dX7_init_181 : decode cX7_init 181 = .ok (.newarray .int, 2) := by decide +kernel
theorem dX7_init_183 : decode cX7_init 183 = .ok (.dup, 1) := by decide +kernel
theorem dX7_init_184 : decode cX7_init 184 = .ok (.iconst 0, 1) := by decide +kernel
theorem dX7_init_185 : decode cX7_init 185 = .ok (.iconst (-1), 1) := by decide +kernel
theorem dX7_init_186 : decode cX7_init 186 = .ok (.iastore, 1) := by decide +kernel
theorem dX7_init_187 : decode cX7_init 187 = .ok (.dup, 1) := by decide +kernel
theorem dX7_init_188 : decode cX7_init 188 = .ok (.iconst 1, 1) := by decide +kernel
theorem dX7_init_189 : decode cX7_init 189 = .ok (.iconst (-1), 1) := by decide +kernel
theorem dX7_init_190 : decode cX7_init 190 = .ok (.iastore, 1) := by decide +kernel
theorem dX7_init_191 : decode cX7_init 191 = .ok (.dup, 1) := by decide +kernel
theorem dX7_init_192 : decode cX7_init 192 = .ok (.iconst 2, 1) := by decide +kernel
theorem dX7_init_193 : decode cX7_init 193 = .ok (.iconst (-1), 1) := by decide +kernel
theorem dX7_init_194 : decode cX7_init 194 = .ok (.iastore, 1) := by decide +kernel
theorem dX7_init_195 : decode cX7_init 195 = .ok (.dup, 1) := by decide +kernel
theorem dX7_init_196 : decode cX7_init 196 = .ok (.iconst 3, 1) := by decide +kernel
theorem dX7_init_197 : decode cX7_init 197 = .ok (.iconst (-1), 1) := by decide +kernel
theorem dX7_init_198 : decode cX7_init 198 = .ok (.iastore, 1) := by decide +kernel
theorem dX7_init_199 : decode cX7_init 199 = .ok (.putfield 48, 3) := by decide +kernel
theorem dX7_init_202 : decode cX7_init 202 = .ok (.aload_n 0, 1) := by decide +kernel
theorem dX7_init_203 : decode cX7_init 203 = .ok (.iconst 4, 1) := by decide +kernel
theorem dX7_init_204 : decode cX7_init 204 = .ok (.newarray .int, 2) := by decide +kernel
theorem dX7_init_206 : decode cX7_init 206 = .ok (.putfield 51, 3) := by decide +kernel
theorem dX7_init_209 : decode cX7_init 209 = .ok (.aload_n 0, 1) := by decide +kernel
theorem dX7_init_210 : decode cX7_init 210 = .ok (.bipush 96, 2) := by decide +kernel
theorem dX7_init_212 : decode cX7_init 212 = .ok (.newarray .int, 2) := by decide +kernel
theorem dX7_init_214 : decode cX7_init 214 = .ok (.putfield 54, 3) := by decide +kernel
theorem dX7_init_217 : decode cX7_init 217 = .ok (.aload_n 0, 1) := by decide +kernel
theorem dX7_init_218 : decode cX7_init 218 = .ok (.iconst 5, 1) := by decide +kernel
theorem dX7_init_219 : decode cX7_init 219 = .ok (.newarray .int, 2) := by decide +kernel
theorem dX7_init_221 : decode cX7_init 221 = .ok (.putfield 57, 3) := by decide +kernel
theorem dX7_init_224 : decode cX7_init 224 = .ok (.aload_n 0, 1) := by decide +kernel
theorem dX7_init_225 : decode cX7_init 225 = .ok (.iconst 5, 1) := by decide +kernel
theorem dX7_init_226 : decode cX7_init 226 = .ok (.newarray .int, 2) := by decide +kernel
theorem dX7_init_228 : decode cX7_init 228 = .ok (.putfield 60, 3) := by decide +kernel
theorem dX7_init_231 : decode cX7_init 231 = .ok (.aload_n 0, 1) := by decide +kernel
theorem dX7_init_232 : decode cX7_init 232 = .ok (.iconst 5, 1) := by decide +kernel
theorem dX7_init_233 : decode cX7_init 233 = .ok (.newarray .int, 2) := by decide +kernel
theorem dX7_init_235 : decode cX7_init 235 = .ok (.putfield 63, 3) := by decide +kernel
theorem dX7_init_238 : decode cX7_init 238 = .ok (.aload_n 0, 1) := by decide +kernel
theorem dX7_init_239 : decode cX7_init 239 = .ok (.bipush 120, 2) := by decide +kernel
theorem dX7_init_241 : decode cX7_init 241 = .ok (.newarray .int, 2) := by decide +kernel
theorem dX7_init_243 : decode cX7_init 243 = .ok (.putfield 66, 3) := by decide +kernel
theorem dX7_init_246 : decode cX7_init 246 = .ok (.aload_n 0, 1) := by decide +kernel
theorem dX7_init_247 : decode cX7_init 247 = .ok (.bipush 24, 2) := by decide +kernel
theorem dX7_init_249 : decode cX7_init 249 = .ok (.newarray .int, 2) := by decide +kernel
theorem dX7_init_251 : decode cX7_init 251 = .ok (.putfield 69, 3) := by decide +kernel
theorem dX7_init_254 : decode cX7_init 254 = .ok (.aload_n 0, 1) := by decide +kernel
theorem dX7_init_255 : decode cX7_init 255 = .ok (.bipush 60, 2) := by decide +kernel
theorem dX7_init_257 : decode cX7_init 257 = .ok (.newarray .int, 2) := by decide +kernel
theorem dX7_init_259 : decode cX7_init 259 = .ok (.putfield 72, 3) := by decide +kernel
theorem dX7_init_262 : decode cX7_init 262 = .ok (.aload_n 0, 1) := by decide +kernel
theorem dX7_init_263 : decode cX7_init 263 = .ok (.getfield 9, 3) := by decide +kernel
theorem dX7_init_266 : decode cX7_init 266 = .ok (.iconst 0, 1) := by decide +kernel
theorem dX7_init_267 : decode cX7_init 267 = .ok (.iconst 1, 1) := by decide +kernel
theorem dX7_init_268 : decode cX7_init 268 = .ok (.iastore, 1) := by decide +kernel
theorem dX7_init_269 : decode cX7_init 269 = .ok (.return_, 1) := by decide +kernel
theorem dX7_in_0 : decode cX7_in 0 = .ok (.iload_n 0, 1) := by decide +kernel
theorem dX7_in_1 : decode cX7_in 1 = .ok (.iload_n 1, 1) := by decide +kernel
theorem dX7_in_2 : decode cX7_in 2 = .ok (.if_icmp .lt 12, 3) := by decide +kernel
theorem dX7_in_5 : decode cX7_in 5 = .ok (.iload_n 0, 1) := by decide +kernel
theorem dX7_in_6 : decode cX7_in 6 = .ok (.iload_n 2, 1) := by decide +kernel
theorem dX7_in_7 : decode cX7_in 7 = .ok (.if_icmp .gt 7, 3) := by decide +kernel
theorem dX7_in_10 : decode cX7_in 10 = .ok (.iconst 1, 1) := by decide +kernel
theorem dX7_in_11 : decode cX7_in 11 = .ok (.goto 4, 3) := by decide +kernel
theorem dX7_in_14 : decode cX7_in 14 = .ok (.iconst 0, 1) := by decide +kernel
theorem dX7_in_15 : decode cX7_in 15 = .ok (.ireturn, 1) := by decide +kernel
theorem dX7_within_0 : decode cX7_within 0 = .ok (.iload_n 0, 1) := by decide +kernel
theorem dX7_within_1 : decode cX7_within 1 = .ok (.iload_n 1, 1) := by decide +kernel
theorem dX7_within_2 : decode cX7_within 2 = .ok (.if_icmp .ge 7, 3) := by decide +kernel
theorem dX7_within_5 : decode cX7_within 5 = .ok (.iload_n 1, 1) := by decide +kernel
theorem dX7_within_6 : decode cX7_within 6 = .ok (.goto 13, 3) := by decide +kernel
theorem dX7_within_9 : decode cX7_within 9 = .ok (.iload_n 0, 1) := by decide +kernel
theorem dX7_within_10 : decode cX7_within 10 = .ok (.iload_n 2, 1) := by decide +kernel
theorem dX7_within_11 : decode cX7_within 11 = .ok (.if_icmp .le 7, 3) := by decide +kernel
theorem dX7_within_14 : decode cX7_within 14 = .ok (.iload_n 2, 1) := by decide +kernel
theorem dX7_within_15 : decode cX7_within 15 = .ok (.goto 4, 3) := by decide +kernel
theorem dX7_within_18 : decode cX7_within 18 = .ok (.iload_n 0, 1) := by decide +kernel
theorem dX7_within_19 : decode cX7_within 19 = .ok (.ireturn, 1) := by decide +kernel
theorem dX7_copyAll_0 : decode cX7_copyAll 0 = .ok (.iconst 0, 1) := by decide +kernel
theorem dX7_copyAll_1 : decode cX7_copyAll 1 = .ok (.istore_n 2, 1) := by decide +kernel
theorem dX7_copyAll_2 : decode cX7_copyAll 2 = .ok (.iload_n 2, 1) := by decide +kernel
theorem dX7_copyAll_3 : decode cX7_copyAll 3 = .ok (.sipush 1471, 3) := by decide +kernel
theorem dX7_copyAll_6 : decode cX7_copyAll 6 = .ok (.if_icmp .ge 15, 3) := by decide +kernel
theorem dX7_copyAll_9 : decode cX7_copyAll 9 = .ok (.aload_n 1, 1) := by decide +kernel
theorem dX7_copyAll_10 : decode cX7_copyAll 10 = .ok (.iload_n 2, 1) := by decide +kernel
theorem dX7_copyAll_11 : decode cX7_copyAll 11 = .ok (.aload_n 0, 1) := by decide +kernel
theorem dX7_copyAll_12 : decode cX7_copyAll 12 = .ok (.iload_n 2, 1) := by decide +kernel
theorem dX7_copyAll_13 : decode cX7_copyAll 13 = .ok (.iaload, 1) := by decide +kernel
theorem dX7_copyAll_14 : decode cX7_copyAll 14 = .ok (.iastore, 1) := by decide +kernel
theorem dX7_copyAll_15 : decode cX7_copyAll 15 = .ok (.iinc 2 1, 3) := by decide +kernel
theorem dX7_copyAll_18 : decode cX7_copyAll 18 = .ok (.goto (-16), 3) := by decide +kernel
theorem dX7_copyAll_21 : decode cX7_copyAll 21 = .ok (.return_, 1) := by decide +kernel
theorem dX7_bits_0 : decode cX7_bits 0 = .ok (.iconst 0, 1) := by decide +kernel
theorem dX7_bits_1 : decode cX7_bits 1 = .ok (.istore_n 1, 1) := by decide +kernel
theorem dX7_bits_2 : decode cX7_bits 2 = .ok (.iload_n 0, 1) := by decide +kernel
theorem dX7_bits_3 : decode cX7_bits 3 = .ok (.istore_n 2, 1) := by decide +kernel
theorem dX7_bits_4 : decode cX7_bits 4 = .ok (.iload_n 2, 1) := by decide +kernel
theorem dX7_bits_5 : decode cX7_bits 5 = .ok (.ifCond .eq 15, 3) := by decide +kernel
theorem dX7_bits_8 : decode cX7_bits 8 = .ok (.iinc 1 1, 3) := by decide +kernel
theorem dX7_bits_11 : decode cX7_bits 11 = .ok (.iload_n 2, 1) := by decide +kernel
theorem dX7_bits_12 : decode cX7_bits 12 = .ok (.iload_n 2, 1) := by decide +kernel
theorem dX7_bits_13 : decode cX7_bits 13 = .ok (.iconst 1, 1) := by decide +kernel
theorem dX7_bits_14 : decode cX7_bits 14 = .ok (.isub, 1) := by decide +kernel
theorem dX7_bits_15 : decode cX7_bits 15 = .ok (.iand, 1) := by decide +kernel
theorem dX7_bits_16 : decode cX7_bits 16 = .ok (.istore_n 2, 1) := by decide +kernel
theorem dX7_bits_17 : decode cX7_bits 17 = .ok (.goto (-13), 3) := by decide +kernel
theorem dX7_bits_20 : decode cX7_bits 20 = .ok (.iload_n 1, 1) := by decide +kernel
theorem dX7_bits_21 : decode cX7_bits 21 = .ok (.ireturn, 1) := by decide +kernel
theorem dX7_isPerson_0 : decode cX7_isPerson 0 = .ok (.iload_n 1, 1) := by decide +kernel
theorem dX7_isPerson_1 : decode cX7_isPerson 1 = .ok (.iconst 0, 1) := by decide +kernel
theorem dX7_isPerson_2 : decode cX7_isPerson 2 = .ok (.aload_n 0, 1) := by decide +kernel
theorem dX7_isPerson_3 : decode cX7_isPerson 3 = .ok (.getfield 9, 3) := by decide +kernel
theorem dX7_isPerson_6 : decode cX7_isPerson 6 = .ok (.iconst 1, 1) := by decide +kernel
theorem dX7_isPerson_7 : decode cX7_isPerson 7 = .ok (.iaload, 1) := by decide +kernel
theorem dX7_isPerson_8 : decode cX7_isPerson 8 = .ok (.iconst 1, 1) := by decide +kernel
theorem dX7_isPerson_9 : decode cX7_isPerson 9 = .ok (.isub, 1) := by decide +kernel
theorem dX7_isPerson_10 : decode cX7_isPerson 10 = .ok (.invokestatic 75, 3) := by decide +kernel
theorem dX7_isPerson_13 : decode cX7_isPerson 13 = .ok (.ireturn, 1) := by decide +kernel
theorem dX7_isField_0 : decode cX7_isField 0 = .ok (.iload_n 0, 1) := by decide +kernel
theorem dX7_isField_1 : decode cX7_isField 1 = .ok (.iconst 0, 1) := by decide +kernel
theorem dX7_isField_2 : decode cX7_isField 2 = .ok (.iconst 5, 1) := by decide +kernel
theorem dX7_isField_3 : decode cX7_isField 3 = .ok (.invokestatic 75, 3) := by decide +kernel
theorem dX7_isField_6 : decode cX7_isField 6 = .ok (.ireturn, 1) := by decide +kernel
theorem dX7_of_0 : decode cX7_of 0 = .ok (.aload_n 0, 1) := by decide +kernel
theorem dX7_of_1 : decode cX7_of 1 = .ok (.getfield 9, 3) := by decide +kernel
theorem dX7_of_4 : decode cX7_of 4 = .ok (.bipush 19, 2) := by decide +kernel
theorem dX7_of_6 : decode cX7_of 6 = .ok (.bipush 10, 2) := by decide +kernel
theorem dX7_of_8 : decode cX7_of 8 = .ok (.iload_n 1, 1) := by decide +kernel
theorem dX7_of_9 : decode cX7_of 9 = .ok (.imul, 1) := by decide +kernel
theorem dX7_of_10 : decode cX7_of 10 = .ok (.iadd, 1) := by decide +kernel
theorem dX7_of_11 : decode cX7_of 11 = .ok (.iload_n 2, 1) := by decide +kernel
theorem dX7_of_12 : decode cX7_of 12 = .ok (.iadd, 1) := by decide +kernel
theorem dX7_of_13 : decode cX7_of 13 = .ok (.iaload, 1) := by decide +kernel
theorem dX7_of_14 : decode cX7_of 14 = .ok (.ireturn, 1) := by decide +kernel
theorem dX7_put_0 : decode cX7_put 0 = .ok (.aload_n 0, 1) := by decide +kernel
theorem dX7_put_1 : decode cX7_put 1 = .ok (.getfield 9, 3) := by decide +kernel
theorem dX7_put_4 : decode cX7_put 4 = .ok (.bipush 19, 2) := by decide +kernel
theorem dX7_put_6 : decode cX7_put 6 = .ok (.bipush 10, 2) := by decide +kernel
theorem dX7_put_8 : decode cX7_put 8 = .ok (.iload_n 1, 1) := by decide +kernel
theorem dX7_put_9 : decode cX7_put 9 = .ok (.imul, 1) := by decide +kernel
theorem dX7_put_10 : decode cX7_put 10 = .ok (.iadd, 1) := by decide +kernel
theorem dX7_put_11 : decode cX7_put 11 = .ok (.iload_n 2, 1) := by decide +kernel
theorem dX7_put_12 : decode cX7_put 12 = .ok (.iadd, 1) := by decide +kernel
theorem dX7_put_13 : decode cX7_put 13 = .ok (.iload_n 3, 1) := by decide +kernel
theorem dX7_put_14 : decode cX7_put 14 = .ok (.iastore, 1) := by decide +kernel
theorem dX7_put_15 : decode cX7_put 15 = .ok (.return_, 1) := by decide +kernel
theorem dX7_thinks_0 : decode cX7_thinks 0 = .ok (.aload_n 0, 1) := by decide +kernel
theorem dX7_thinks_1 : decode cX7_thinks 1 = .ok (.iload_n 1, 1) := by decide +kernel
theorem dX7_thinks_2 : decode cX7_thinks 2 = .ok (.iconst 4, 1) := by decide +kernel
theorem dX7_thinks_3 : decode cX7_thinks 3 = .ok (.iload_n 2, 1) := by decide +kernel
theorem dX7_thinks_4 : decode cX7_thinks 4 = .ok (.iadd, 1) := by decide +kernel
theorem dX7_thinks_5 : decode cX7_thinks 5 = .ok (.invokevirtual 79, 3) := by decide +kernel
theorem dX7_thinks_8 : decode cX7_thinks 8 = .ok (.ireturn, 1) := by decide +kernel
theorem dX7_swaps_0 : decode cX7_swaps 0 = .ok (.aload_n 0, 1) := by decide +kernel
theorem dX7_swaps_1 : decode cX7_swaps 1 = .ok (.getfield 9, 3) := by decide +kernel
theorem dX7_swaps_4 : decode cX7_swaps 4 = .ok (.iload_n 1, 1) := by decide +kernel
theorem dX7_swaps_5 : decode cX7_swaps 5 = .ok (.iaload, 1) := by decide +kernel
theorem dX7_swaps_6 : decode cX7_swaps 6 = .ok (.istore_n 3, 1) := by decide +kernel
theorem dX7_swaps_7 : decode cX7_swaps 7 = .ok (.aload_n 0, 1) := by decide +kernel
theorem dX7_swaps_8 : decode cX7_swaps 8 = .ok (.getfield 9, 3) := by decide +kernel
theorem dX7_swaps_11 : decode cX7_swaps 11 = .ok (.iload_n 1, 1) := by decide +kernel
theorem dX7_swaps_12 : decode cX7_swaps 12 = .ok (.iload_n 2, 1) := by decide +kernel
theorem dX7_swaps_13 : decode cX7_swaps 13 = .ok (.iastore, 1) := by decide +kernel
theorem dX7_swaps_14 : decode cX7_swaps 14 = .ok (.iload_n 3, 1) := by decide +kernel
theorem dX7_swaps_15 : decode cX7_swaps 15 = .ok (.ireturn, 1) := by decide +kernel
theorem dX7_off_0 : decode cX7_off 0 = .ok (.iload_n 0, 1) := by decide +kernel
theorem dX7_off_1 : decode cX7_off 1 = .ok (.ifCond .ge 8, 3) := by decide +kernel
theorem dX7_off_4 : decode cX7_off 4 = .ok (.iload_n 0, 1) := by decide +kernel
theorem dX7_off_5 : decode cX7_off 5 = .ok (.ineg, 1) := by decide +kernel
theorem dX7_off_6 : decode cX7_off 6 = .ok (.goto 4, 3) := by decide +kernel
theorem dX7_off_9 : decode cX7_off 9 = .ok (.iload_n 0, 1) := by decide +kernel
theorem dX7_off_10 : decode cX7_off 10 = .ok (.ireturn, 1) := by decide +kernel
theorem dX7_worthOf_0 : decode cX7_worthOf 0 = .ok (.aload_n 0, 1) := by decide +kernel
theorem dX7_worthOf_1 : decode cX7_worthOf 1 = .ok (.iload_n 1, 1) := by decide +kernel
theorem dX7_worthOf_2 : decode cX7_worthOf 2 = .ok (.iconst 0, 1) := by decide +kernel
theorem dX7_worthOf_3 : decode cX7_worthOf 3 = .ok (.invokevirtual 79, 3) := by decide +kernel
theorem dX7_worthOf_6 : decode cX7_worthOf 6 = .ok (.tableswitch 42 1 5 #[34, 36, 38, 40, 34], 34) := by decide +kernel
theorem dX7_worthOf_40 : decode cX7_worthOf 40 = .ok (.iconst 1, 1) := by decide +kernel
theorem dX7_worthOf_41 : decode cX7_worthOf 41 = .ok (.ireturn, 1) := by decide +kernel
theorem dX7_worthOf_42 : decode cX7_worthOf 42 = .ok (.iconst 5, 1) := by decide +kernel
theorem dX7_worthOf_43 : decode cX7_worthOf 43 = .ok (.ireturn, 1) := by decide +kernel
theorem dX7_worthOf_44 : decode cX7_worthOf 44 = .ok (.iconst 3, 1) := by decide +kernel
theorem dX7_worthOf_45 : decode cX7_worthOf 45 = .ok (.ireturn, 1) := by decide +kernel
theorem dX7_worthOf_46 : decode cX7_worthOf 46 = .ok (.iconst 4, 1) := by decide +kernel
theorem dX7_worthOf_47 : decode cX7_worthOf 47 = .ok (.ireturn, 1) := by decide +kernel
theorem dX7_worthOf_48 : decode cX7_worthOf 48 = .ok (.iconst 2, 1) := by decide +kernel
theorem dX7_worthOf_49 : decode cX7_worthOf 49 = .ok (.ireturn, 1) := by decide +kernel
theorem dX7_thinkers_0 : decode cX7_thinkers 0 = .ok (.iconst 0, 1) := by decide +kernel
theorem dX7_thinkers_1 : decode cX7_thinkers 1 = .ok (.istore_n 3, 1) := by decide +kernel
theorem dX7_thinkers_2 : decode cX7_thinkers 2 = .ok (.iconst 0, 1) := by decide +kernel
theorem dX7_thinkers_3 : decode cX7_thinkers 3 = .ok (.istore 4, 2) := by decide +kernel
theorem dX7_thinkers_5 : decode cX7_thinkers 5 = .ok (.iload 4, 2) := by decide +kernel
theorem dX7_thinkers_7 : decode cX7_thinkers 7 = .ok (.aload_n 0, 1) := by decide +kernel
theorem dX7_thinkers_8 : decode cX7_thinkers 8 = .ok (.getfield 9, 3) := by decide +kernel
theorem dX7_thinkers_11 : decode cX7_thinkers 11 = .ok (.iconst 1, 1) := by decide +kernel
theorem dX7_thinkers_12 : decode cX7_thinkers 12 = .ok (.iaload, 1) := by decide +kernel
theorem dX7_thinkers_13 : decode cX7_thinkers 13 = .ok (.if_icmp .ge 31, 3) := by decide +kernel
theorem dX7_thinkers_16 : decode cX7_thinkers 16 = .ok (.iload_n 3, 1) := by decide +kernel
theorem dX7_thinkers_17 : decode cX7_thinkers 17 = .ok (.aload_n 0, 1) := by decide +kernel
theorem dX7_thinkers_18 : decode cX7_thinkers 18 = .ok (.iload 4, 2) := by decide +kernel
theorem dX7_thinkers_20 : decode cX7_thinkers 20 = .ok (.iload_n 1, 1) := by decide +kernel
theorem dX7_thinkers_21 : decode cX7_thinkers 21 = .ok (.invokevirtual 83, 3) := by decide +kernel
theorem dX7_thinkers_24 : decode cX7_thinkers 24 = .ok (.iload_n 2, 1) := by decide +kernel
theorem dX7_thinkers_25 : decode cX7_thinkers 25 = .ok (.if_icmp .ne 10, 3) := by decide +kernel
theorem dX7_thinkers_28 : decode cX7_thinkers 28 = .ok (.iconst 1, 1) := by decide +kernel
theorem dX7_thinkers_29 : decode cX7_thinkers 29 = .ok (.iload 4, 2) := by decide +kernel
theorem dX7_thinkers_31 : decode cX7_thinkers 31 = .ok (.ishl, 1) := by decide +kernel
theorem dX7_thinkers_32 : decode cX7_thinkers 32 = .ok (.goto 4, 3) := by decide +kernel
theorem dX7_thinkers_35 : decode cX7_thinkers 35 = .ok (.iconst 0, 1) := by decide +kernel
theorem dX7_thinkers_36 : decode cX7_thinkers 36 = .ok (.ior, 1) := by decide +kernel
theorem dX7_thinkers_37 : decode cX7_thinkers 37 = .ok (.istore_n 3, 1) := by decide +kernel
theorem dX7_thinkers_38 : decode cX7_thinkers 38 = .ok (.iinc 4 1, 3) := by decide +kernel
theorem dX7_thinkers_41 : decode cX7_thinkers 41 = .ok (.goto (-36), 3) := by decide +kernel
theorem dX7_thinkers_44 : decode cX7_thinkers 44 = .ok (.iload_n 3, 1) := by decide +kernel
theorem dX7_thinkers_45 : decode cX7_thinkers 45 = .ok (.ireturn, 1) := by decide +kernel
theorem dX7_votesFor_0 : decode cX7_votesFor 0 = .ok (.iconst 0, 1) := by decide +kernel
theorem dX7_votesFor_1 : decode cX7_votesFor 1 = .ok (.istore_n 3, 1) := by decide +kernel
theorem dX7_votesFor_2 : decode cX7_votesFor 2 = .ok (.iconst 0, 1) := by decide +kernel
theorem dX7_votesFor_3 : decode cX7_votesFor 3 = .ok (.istore 4, 2) := by decide +kernel
theorem dX7_votesFor_5 : decode cX7_votesFor 5 = .ok (.iload 4, 2) := by decide +kernel
theorem dX7_votesFor_7 : decode cX7_votesFor 7 = .ok (.aload_n 0, 1) := by decide +kernel
theorem dX7_votesFor_8 : decode cX7_votesFor 8 = .ok (.getfield 9, 3) := by decide +kernel
theorem dX7_votesFor_11 : decode cX7_votesFor 11 = .ok (.iconst 1, 1) := by decide +kernel
theorem dX7_votesFor_12 : decode cX7_votesFor 12 = .ok (.iaload, 1) := by decide +kernel
theorem dX7_votesFor_13 : decode cX7_votesFor 13 = .ok (.if_icmp .ge 33, 3) := by decide +kernel
theorem dX7_votesFor_16 : decode cX7_votesFor 16 = .ok (.iload_n 3, 1) := by decide +kernel
theorem dX7_votesFor_17 : decode cX7_votesFor 17 = .ok (.aload_n 0, 1) := by decide +kernel
theorem dX7_votesFor_18 : decode cX7_votesFor 18 = .ok (.iload 4, 2) := by decide +kernel
theorem dX7_votesFor_20 : decode cX7_votesFor 20 = .ok (.iload_n 1, 1) := by decide +kernel
theorem dX7_votesFor_21 : decode cX7_votesFor 21 = .ok (.invokevirtual 83, 3) := by decide +kernel
theorem dX7_votesFor_24 : decode cX7_votesFor 24 = .ok (.iload_n 2, 1) := by decide +kernel
theorem dX7_votesFor_25 : decode cX7_votesFor 25 = .ok (.if_icmp .ne 12, 3) := by decide +kernel
theorem dX7_votesFor_28 : decode cX7_votesFor 28 = .ok (.aload_n 0, 1) := by decide +kernel
theorem dX7_votesFor_29 : decode cX7_votesFor 29 = .ok (.iload 4, 2) := by decide +kernel
theorem dX7_votesFor_31 : decode cX7_votesFor 31 = .ok (.invokevirtual 86, 3) := by decide +kernel
theorem dX7_votesFor_34 : decode cX7_votesFor 34 = .ok (.goto 4, 3) := by decide +kernel
theorem dX7_votesFor_37 : decode cX7_votesFor 37 = .ok (.iconst 0, 1) := by decide +kernel
theorem dX7_votesFor_38 : decode cX7_votesFor 38 = .ok (.iadd, 1) := by decide +kernel
theorem dX7_votesFor_39 : decode cX7_votesFor 39 = .ok (.istore_n 3, 1) := by decide +kernel
theorem dX7_votesFor_40 : decode cX7_votesFor 40 = .ok (.iinc 4 1, 3) := by decide +kernel
theorem dX7_votesFor_43 : decode cX7_votesFor 43 = .ok (.goto (-38), 3) := by decide +kernel
theorem dX7_votesFor_46 : decode cX7_votesFor 46 = .ok (.iload_n 3, 1) := by decide +kernel
theorem dX7_votesFor_47 : decode cX7_votesFor 47 = .ok (.ireturn, 1) := by decide +kernel
theorem dX7_firstOf_0 : decode cX7_firstOf 0 = .ok (.iconst 0, 1) := by decide +kernel
theorem dX7_firstOf_1 : decode cX7_firstOf 1 = .ok (.istore_n 2, 1) := by decide +kernel
theorem dX7_firstOf_2 : decode cX7_firstOf 2 = .ok (.iconst 0, 1) := by decide +kernel
theorem dX7_firstOf_3 : decode cX7_firstOf 3 = .ok (.istore_n 3, 1) := by decide +kernel
theorem dX7_firstOf_4 : decode cX7_firstOf 4 = .ok (.iconst 1, 1) := by decide +kernel
theorem dX7_firstOf_5 : decode cX7_firstOf 5 = .ok (.istore 4, 2) := by decide +kernel
theorem dX7_firstOf_7 : decode cX7_firstOf 7 = .ok (.iload 4, 2) := by decide +kernel
theorem dX7_firstOf_9 : decode cX7_firstOf 9 = .ok (.bipush 10, 2) := by decide +kernel
theorem dX7_firstOf_11 : decode cX7_firstOf 11 = .ok (.if_icmp .ge 44, 3) := by decide +kernel
theorem dX7_firstOf_14 : decode cX7_firstOf 14 = .ok (.aload_n 0, 1) := by decide +kernel
theorem dX7_firstOf_15 : decode cX7_firstOf 15 = .ok (.iload_n 1, 1) := by decide +kernel
theorem dX7_firstOf_16 : decode cX7_firstOf 16 = .ok (.iload 4, 2) := by decide +kernel
theorem dX7_firstOf_18 : decode cX7_firstOf 18 = .ok (.invokevirtual 90, 3) := by decide +kernel
theorem dX7_firstOf_21 : decode cX7_firstOf 21 = .ok (.istore 5, 2) := by decide +kernel
theorem dX7_firstOf_23 : decode cX7_firstOf 23 = .ok (.iload 5, 2) := by decide +kernel
theorem dX7_firstOf_25 : decode cX7_firstOf 25 = .ok (.iload_n 3, 1) := by decide +kernel
theorem dX7_firstOf_26 : decode cX7_firstOf 26 = .ok (.if_icmp .le 8, 3) := by decide +kernel
theorem dX7_firstOf_29 : decode cX7_firstOf 29 = .ok (.iload 4, 2) := by decide +kernel
theorem dX7_firstOf_31 : decode cX7_firstOf 31 = .ok (.goto 4, 3) := by decide +kernel
theorem dX7_firstOf_34 : decode cX7_firstOf 34 = .ok (.iload_n 2, 1) := by decide +kernel
theorem dX7_firstOf_35 : decode cX7_firstOf 35 = .ok (.istore_n 2, 1) := by decide +kernel
theorem dX7_firstOf_36 : decode cX7_firstOf 36 = .ok (.iload 5, 2) := by decide +kernel
theorem dX7_firstOf_38 : decode cX7_firstOf 38 = .ok (.iload_n 3, 1) := by decide +kernel
theorem dX7_firstOf_39 : decode cX7_firstOf 39 = .ok (.if_icmp .le 8, 3) := by decide +kernel
theorem dX7_firstOf_42 : decode cX7_firstOf 42 = .ok (.iload 5, 2) := by decide +kernel
theorem dX7_firstOf_44 : decode cX7_firstOf 44 = .ok (.goto 4, 3) := by decide +kernel
theorem dX7_firstOf_47 : decode cX7_firstOf 47 = .ok (.iload_n 3, 1) := by decide +kernel
theorem dX7_firstOf_48 : decode cX7_firstOf 48 = .ok (.istore_n 3, 1) := by decide +kernel
theorem dX7_firstOf_49 : decode cX7_firstOf 49 = .ok (.iinc 4 1, 3) := by decide +kernel
theorem dX7_firstOf_52 : decode cX7_firstOf 52 = .ok (.goto (-45), 3) := by decide +kernel
theorem dX7_firstOf_55 : decode cX7_firstOf 55 = .ok (.iload_n 2, 1) := by decide +kernel
theorem dX7_firstOf_56 : decode cX7_firstOf 56 = .ok (.ireturn, 1) := by decide +kernel
theorem dX7_saysOf_0 : decode cX7_saysOf 0 = .ok (.aload_n 0, 1) := by decide +kernel
theorem dX7_saysOf_1 : decode cX7_saysOf 1 = .ok (.iload_n 1, 1) := by decide +kernel
theorem dX7_saysOf_2 : decode cX7_saysOf 2 = .ok (.iload_n 2, 1) := by decide +kernel
theorem dX7_saysOf_3 : decode cX7_saysOf 3 = .ok (.invokevirtual 83, 3) := by decide +kernel
theorem dX7_saysOf_6 : decode cX7_saysOf 6 = .ok (.istore_n 3, 1) := by decide +kernel
theorem dX7_saysOf_7 : decode cX7_saysOf 7 = .ok (.iload_n 3, 1) := by decide +kernel
theorem dX7_saysOf_8 : decode cX7_saysOf 8 = .ok (.ifCond .ne 7, 3) := by decide +kernel
theorem dX7_saysOf_11 : decode cX7_saysOf 11 = .ok (.iconst 0, 1) := by decide +kernel
theorem dX7_saysOf_12 : decode cX7_saysOf 12 = .ok (.goto 16, 3) := by decide +kernel
theorem dX7_saysOf_15 : decode cX7_saysOf 15 = .ok (.iload_n 3, 1) := by decide +kernel
theorem dX7_saysOf_16 : decode cX7_saysOf 16 = .ok (.bipush 9, 2) := by decide +kernel
theorem dX7_saysOf_18 : decode cX7_saysOf 18 = .ok (.if_icmp .ne 7, 3) := by decide +kernel
theorem dX7_saysOf_21 : decode cX7_saysOf 21 = .ok (.iconst 1, 1) := by decide +kernel
theorem dX7_saysOf_22 : decode cX7_saysOf 22 = .ok (.goto 6, 3) := by decide +kernel
theorem dX7_saysOf_25 : decode cX7_saysOf 25 = .ok (.iload_n 3, 1) := by decide +kernel
theorem dX7_saysOf_26 : decode cX7_saysOf 26 = .ok (.iconst 1, 1) := by decide +kernel
theorem dX7_saysOf_27 : decode cX7_saysOf 27 = .ok (.iadd, 1) := by decide +kernel
theorem dX7_saysOf_28 : decode cX7_saysOf 28 = .ok (.istore 4, 2) := by decide +kernel
theorem dX7_saysOf_30 : decode cX7_saysOf 30 = .ok (.aload_n 0, 1) := by decide +kernel
theorem dX7_saysOf_31 : decode cX7_saysOf 31 = .ok (.iload_n 1, 1) := by decide +kernel
theorem dX7_saysOf_32 : decode cX7_saysOf 32 = .ok (.iconst 0, 1) := by decide +kernel
theorem dX7_saysOf_33 : decode cX7_saysOf 33 = .ok (.invokevirtual 79, 3) := by decide +kernel
theorem dX7_saysOf_36 : decode cX7_saysOf 36 = .ok (.iconst 4, 1) := by decide +kernel
theorem dX7_saysOf_37 : decode cX7_saysOf 37 = .ok (.if_icmp .ne 11, 3) := by decide +kernel
theorem dX7_saysOf_40 : decode cX7_saysOf 40 = .ok (.aload_n 0, 1) := by decide +kernel
theorem dX7_saysOf_41 : decode cX7_saysOf 41 = .ok (.iload_n 2, 1) := by decide +kernel
theorem dX7_saysOf_42 : decode cX7_saysOf 42 = .ok (.invokevirtual 93, 3) := by decide +kernel
theorem dX7_saysOf_45 : decode cX7_saysOf 45 = .ok (.goto 4, 3) := by decide +kernel
theorem dX7_saysOf_48 : decode cX7_saysOf 48 = .ok (.iconst 0, 1) := by decide +kernel
theorem dX7_saysOf_49 : decode cX7_saysOf 49 = .ok (.istore 5, 2) := by decide +kernel
theorem dX7_saysOf_51 : decode cX7_saysOf 51 = .ok (.aload_n 0, 1) := by decide +kernel
theorem dX7_saysOf_52 : decode cX7_saysOf 52 = .ok (.iload_n 1, 1) := by decide +kernel
theorem dX7_saysOf_53 : decode cX7_saysOf 53 = .ok (.iconst 0, 1) := by decide +kernel
theorem dX7_saysOf_54 : decode cX7_saysOf 54 = .ok (.invokevirtual 79, 3) := by decide +kernel
theorem dX7_saysOf_57 : decode cX7_saysOf 57 = .ok (.tableswitch 86 1 5 #[35, 38, 48, 63, 83], 35) := by decide +kernel
theorem dX7_saysOf_92 : decode cX7_saysOf 92 = .ok (.iload 4, 2) := by decide +kernel
theorem dX7_saysOf_94 : decode cX7_saysOf 94 = .ok (.ireturn, 1) := by decide +kernel
theorem dX7_saysOf_95 : decode cX7_saysOf 95 = .ok (.aload_n 0, 1) := by decide +kernel
theorem dX7_saysOf_96 : decode cX7_saysOf 96 = .ok (.getfield 9, 3) := by decide +kernel
theorem dX7_saysOf_99 : decode cX7_saysOf 99 = .ok (.bipush 7, 2) := by decide +kernel
theorem dX7_saysOf_101 : decode cX7_saysOf 101 = .ok (.iload_n 2, 1) := by decide +kernel
theorem dX7_saysOf_102 : decode cX7_saysOf 102 = .ok (.iadd, 1) := by decide +kernel
theorem dX7_saysOf_103 : decode cX7_saysOf 103 = .ok (.iaload, 1) := by decide +kernel
theorem dX7_saysOf_104 : decode cX7_saysOf 104 = .ok (.ireturn, 1) := by decide +kernel
theorem dX7_saysOf_105 : decode cX7_saysOf 105 = .ok (.iload 4, 2) := by decide +kernel
theorem dX7_saysOf_107 : decode cX7_saysOf 107 = .ok (.ifCond .ne 7, 3) := by decide +kernel
theorem dX7_saysOf_110 : decode cX7_saysOf 110 = .ok (.iconst 0, 1) := by decide +kernel
theorem dX7_saysOf_111 : decode cX7_saysOf 111 = .ok (.goto 8, 3) := by decide +kernel
theorem dX7_saysOf_114 : decode cX7_saysOf 114 = .ok (.bipush 10, 2) := by decide +kernel
theorem dX7_saysOf_116 : decode cX7_saysOf 116 = .ok (.iload 4, 2) := by decide +kernel
theorem dX7_saysOf_118 : decode cX7_saysOf 118 = .ok (.isub, 1) := by decide +kernel
theorem dX7_saysOf_119 : decode cX7_saysOf 119 = .ok (.ireturn, 1) := by decide +kernel
theorem dX7_saysOf_120 : decode cX7_saysOf 120 = .ok (.iload 5, 2) := by decide +kernel
theorem dX7_saysOf_122 : decode cX7_saysOf 122 = .ok (.ifCond .ne 15, 3) := by decide +kernel
theorem dX7_saysOf_125 : decode cX7_saysOf 125 = .ok (.aload_n 0, 1) := by decide +kernel
theorem dX7_saysOf_126 : decode cX7_saysOf 126 = .ok (.getfield 9, 3) := by decide +kernel
theorem dX7_saysOf_129 : decode cX7_saysOf 129 = .ok (.bipush 7, 2) := by decide +kernel
theorem dX7_saysOf_131 : decode cX7_saysOf 131 = .ok (.iload_n 2, 1) := by decide +kernel
theorem dX7_saysOf_132 : decode cX7_saysOf 132 = .ok (.iadd, 1) := by decide +kernel
theorem dX7_saysOf_133 : decode cX7_saysOf 133 = .ok (.iaload, 1) := by decide +kernel
theorem dX7_saysOf_134 : decode cX7_saysOf 134 = .ok (.goto 5, 3) := by decide +kernel
theorem dX7_saysOf_137 : decode cX7_saysOf 137 = .ok (.iload 5, 2) := by decide +kernel
theorem dX7_saysOf_139 : decode cX7_saysOf 139 = .ok (.ireturn, 1) := by decide +kernel
theorem dX7_saysOf_140 : decode cX7_saysOf 140 = .ok (.bipush 9, 2) := by decide +kernel
theorem dX7_saysOf_142 : decode cX7_saysOf 142 = .ok (.ireturn, 1) := by decide +kernel
theorem dX7_saysOf_143 : decode cX7_saysOf 143 = .ok (.iload_n 3, 1) := by decide +kernel
theorem dX7_saysOf_144 : decode cX7_saysOf 144 = .ok (.ireturn, 1) := by decide +kernel
theorem dX7_heedsOf_0 : decode cX7_heedsOf 0 = .ok (.aload_n 0, 1) := by decide +kernel
theorem dX7_heedsOf_1 : decode cX7_heedsOf 1 = .ok (.iload_n 2, 1) := by decide +kernel
theorem dX7_heedsOf_2 : decode cX7_heedsOf 2 = .ok (.iload_n 3, 1) := by decide +kernel
theorem dX7_heedsOf_3 : decode cX7_heedsOf 3 = .ok (.invokevirtual 96, 3) := by decide +kernel
theorem dX7_heedsOf_6 : decode cX7_heedsOf 6 = .ok (.invokestatic 99, 3) := by decide +kernel
theorem dX7_heedsOf_9 : decode cX7_heedsOf 9 = .ok (.istore 4, 2) := by decide +kernel
theorem dX7_heedsOf_11 : decode cX7_heedsOf 11 = .ok (.aload_n 0, 1) := by decide +kernel
theorem dX7_heedsOf_12 : decode cX7_heedsOf 12 = .ok (.iconst 0, 1) := by decide +kernel
theorem dX7_heedsOf_13 : decode cX7_heedsOf 13 = .ok (.invokevirtual 102, 3) := by decide +kernel
theorem dX7_heedsOf_16 : decode cX7_heedsOf 16 = .ok (.istore 5, 2) := by decide +kernel
theorem dX7_heedsOf_18 : decode cX7_heedsOf 18 = .ok (.aload_n 0, 1) := by decide +kernel
theorem dX7_heedsOf_19 : decode cX7_heedsOf 19 = .ok (.getfield 45, 3) := by decide +kernel
theorem dX7_heedsOf_22 : decode cX7_heedsOf 22 = .ok (.iconst 0, 1) := by decide +kernel
theorem dX7_heedsOf_23 : decode cX7_heedsOf 23 = .ok (.aload_n 0, 1) := by decide +kernel
theorem dX7_heedsOf_24 : decode cX7_heedsOf 24 = .ok (.iload_n 1, 1) := by decide +kernel
theorem dX7_heedsOf_25 : decode cX7_heedsOf 25 = .ok (.iconst 2, 1) := by decide +kernel
theorem dX7_heedsOf_26 : decode cX7_heedsOf 26 = .ok (.invokevirtual 79, 3) := by decide +kernel
theorem dX7_heedsOf_29 : decode cX7_heedsOf 29 = .ok (.iastore, 1) := by decide +kernel
theorem dX7_heedsOf_30 : decode cX7_heedsOf 30 = .ok (.aload_n 0, 1) := by decide +kernel
theorem dX7_heedsOf_31 : decode cX7_heedsOf 31 = .ok (.getfield 45, 3) := by decide +kernel
theorem dX7_heedsOf_34 : decode cX7_heedsOf 34 = .ok (.iconst 1, 1) := by decide +kernel
theorem dX7_heedsOf_35 : decode cX7_heedsOf 35 = .ok (.iload 4, 2) := by decide +kernel
theorem dX7_heedsOf_37 : decode cX7_heedsOf 37 = .ok (.iastore, 1) := by decide +kernel
theorem dX7_heedsOf_38 : decode cX7_heedsOf 38 = .ok (.aload_n 0, 1) := by decide +kernel
theorem dX7_heedsOf_39 : decode cX7_heedsOf 39 = .ok (.getfield 45, 3) := by decide +kernel
theorem dX7_heedsOf_42 : decode cX7_heedsOf 42 = .ok (.iconst 2, 1) := by decide +kernel
theorem dX7_heedsOf_43 : decode cX7_heedsOf 43 = .ok (.aload_n 0, 1) := by decide +kernel
theorem dX7_heedsOf_44 : decode cX7_heedsOf 44 = .ok (.iload_n 1, 1) := by decide +kernel
theorem dX7_heedsOf_45 : decode cX7_heedsOf 45 = .ok (.iconst 3, 1) := by decide +kernel
theorem dX7_heedsOf_46 : decode cX7_heedsOf 46 = .ok (.invokevirtual 79, 3) := by decide +kernel
theorem dX7_heedsOf_49 : decode cX7_heedsOf 49 = .ok (.iastore, 1) := by decide +kernel
theorem dX7_heedsOf_50 : decode cX7_heedsOf 50 = .ok (.aload_n 0, 1) := by decide +kernel
theorem dX7_heedsOf_51 : decode cX7_heedsOf 51 = .ok (.getfield 45, 3) := by decide +kernel
theorem dX7_heedsOf_54 : decode cX7_heedsOf 54 = .ok (.iconst 3, 1) := by decide +kernel
theorem dX7_heedsOf_55 : decode cX7_heedsOf 55 = .ok (.iload_n 3, 1) := by decide +kernel
theorem dX7_heedsOf_56 : decode cX7_heedsOf 56 = .ok (.iastore, 1) := by decide +kernel
theorem dX7_heedsOf_57 : decode cX7_heedsOf 57 = .ok (.iload 5, 2) := by decide +kernel
theorem dX7_heedsOf_59 : decode cX7_heedsOf 59 = .ok (.ifCond .ge 12, 3) := by decide +kernel
theorem dX7_heedsOf_62 : decode cX7_heedsOf 62 = .ok (.aload_n 0, 1) := by decide +kernel
theorem dX7_heedsOf_63 : decode cX7_heedsOf 63 = .ok (.iload_n 1, 1) := by decide +kernel
theorem dX7_heedsOf_64 : decode cX7_heedsOf 64 = .ok (.iconst 2, 1) := by decide +kernel
theorem dX7_heedsOf_65 : decode cX7_heedsOf 65 = .ok (.invokevirtual 79, 3) := by decide +kernel
theorem dX7_heedsOf_68 : decode cX7_heedsOf 68 = .ok (.goto 15, 3) := by decide +kernel
theorem dX7_heedsOf_71 : decode cX7_heedsOf 71 = .ok (.aload_n 0, 1) := by decide +kernel
theorem dX7_heedsOf_72 : decode cX7_heedsOf 72 = .ok (.iload 5, 2) := by decide +kernel
theorem dX7_heedsOf_74 : decode cX7_heedsOf 74 = .ok (.invokevirtual 105, 3) := by decide +kernel
theorem dX7_heedsOf_77 : decode cX7_heedsOf 77 = .ok (.iconst 0, 1) := by decide +kernel
theorem dX7_heedsOf_78 : decode cX7_heedsOf 78 = .ok (.bipush 99, 2) := by decide +kernel
theorem dX7_heedsOf_80 : decode cX7_heedsOf 80 = .ok (.invokestatic 108, 3) := by decide +kernel
theorem dX7_heedsOf_83 : decode cX7_heedsOf 83 = .ok (.istore 6, 2) := by decide +kernel
theorem dX7_heedsOf_85 : decode cX7_heedsOf 85 = .ok (.aload_n 0, 1) := by decide +kernel
theorem dX7_heedsOf_86 : decode cX7_heedsOf 86 = .ok (.iload_n 1, 1) := by decide +kernel
theorem dX7_heedsOf_87 : decode cX7_heedsOf 87 = .ok (.iconst 0, 1) := by decide +kernel
theorem dX7_heedsOf_88 : decode cX7_heedsOf 88 = .ok (.invokevirtual 79, 3) := by decide +kernel
theorem dX7_heedsOf_91 : decode cX7_heedsOf 91 = .ok (.tableswitch 55 1 5 #[33, 38, 40, 47, 52], 33) := by decide +kernel
theorem dX7_heedsOf_124 : decode cX7_heedsOf 124 = .ok (.iload 6, 2) := by decide +kernel
theorem dX7_heedsOf_126 : decode cX7_heedsOf 126 = .ok (.iconst 3, 1) := by decide +kernel
theorem dX7_heedsOf_127 : decode cX7_heedsOf 127 = .ok (.iadd, 1) := by decide +kernel
theorem dX7_heedsOf_128 : decode cX7_heedsOf 128 = .ok (.ireturn, 1) := by decide +kernel
theorem dX7_heedsOf_129 : decode cX7_heedsOf 129 = .ok (.iconst 0, 1) := by decide +kernel
theorem dX7_heedsOf_130 : decode cX7_heedsOf 130 = .ok (.ireturn, 1) := by decide +kernel
theorem dX7_heedsOf_131 : decode cX7_heedsOf 131 = .ok (.iload 6, 2) := by decide +kernel
theorem dX7_heedsOf_133 : decode cX7_heedsOf 133 = .ok (.iconst 3, 1) := by decide +kernel
theorem dX7_heedsOf_134 : decode cX7_heedsOf 134 = .ok (.iadd, 1) := by decide +kernel
theorem dX7_heedsOf_135 : decode cX7_heedsOf 135 = .ok (.iconst 2, 1) := by decide +kernel
theorem dX7_heedsOf_136 : decode cX7_heedsOf 136 = .ok (.idiv, 1) := by decide +kernel
theorem dX7_heedsOf_137 : decode cX7_heedsOf 137 = .ok (.ireturn, 1) := by decide +kernel
theorem dX7_heedsOf_138 : decode cX7_heedsOf 138 = .ok (.iconst 2, 1) := by decide +kernel
theorem dX7_heedsOf_139 : decode cX7_heedsOf 139 = .ok (.iload 4, 2) := by decide +kernel
theorem dX7_heedsOf_141 : decode cX7_heedsOf 141 = .ok (.imul, 1) := by decide +kernel
theorem dX7_heedsOf_142 : decode cX7_heedsOf 142 = .ok (.ireturn, 1) := by decide +kernel
theorem dX7_heedsOf_143 : decode cX7_heedsOf 143 = .ok (.bipush 99, 2) := by decide +kernel
theorem dX7_heedsOf_145 : decode cX7_heedsOf 145 = .ok (.ireturn, 1) := by decide +kernel
theorem dX7_heedsOf_146 : decode cX7_heedsOf 146 = .ok (.iload 6, 2) := by decide +kernel
theorem dX7_heedsOf_148 : decode cX7_heedsOf 148 = .ok (.ireturn, 1) := by decide +kernel
theorem dX7_doesHear_0 : decode cX7_doesHear 0 = .ok (.aload_n 0, 1) := by decide +kernel
theorem dX7_doesHear_1 : decode cX7_doesHear 1 = .ok (.iload_n 1, 1) := by decide +kernel
theorem dX7_doesHear_2 : decode cX7_doesHear 2 = .ok (.iconst 1, 1) := by decide +kernel
theorem dX7_doesHear_3 : decode cX7_doesHear 3 = .ok (.invokevirtual 79, 3) := by decide +kernel
theorem dX7_doesHear_6 : decode cX7_doesHear 6 = .ok (.aload_n 0, 1) := by decide +kernel
theorem dX7_doesHear_7 : decode cX7_doesHear 7 = .ok (.iload_n 2, 1) := by decide +kernel
theorem dX7_doesHear_8 : decode cX7_doesHear 8 = .ok (.iconst 1, 1) := by decide +kernel
theorem dX7_doesHear_9 : decode cX7_doesHear 9 = .ok (.invokevirtual 79, 3) := by decide +kernel
theorem dX7_doesHear_12 : decode cX7_doesHear 12 = .ok (.isub, 1) := by decide +kernel
theorem dX7_doesHear_13 : decode cX7_doesHear 13 = .ok (.invokestatic 112, 3) := by decide +kernel
theorem dX7_doesHear_16 : decode cX7_doesHear 16 = .ok (.istore_n 3, 1) := by decide +kernel
theorem dX7_doesHear_17 : decode cX7_doesHear 17 = .ok (.iload_n 1, 1) := by decide +kernel
theorem dX7_doesHear_18 : decode cX7_doesHear 18 = .ok (.iload_n 2, 1) := by decide +kernel
theorem dX7_doesHear_19 : decode cX7_doesHear 19 = .ok (.if_icmp .eq 18, 3) := by decide +kernel
theorem dX7_doesHear_22 : decode cX7_doesHear 22 = .ok (.iload_n 3, 1) := by decide +kernel
theorem dX7_doesHear_23 : decode cX7_doesHear 23 = .ok (.iconst 2, 1) := by decide +kernel
theorem dX7_doesHear_24 : decode cX7_doesHear 24 = .ok (.if_icmp .lt 9, 3) := by decide +kernel
theorem dX7_doesHear_27 : decode cX7_doesHear 27 = .ok (.iload_n 3, 1) := by decide +kernel
theorem dX7_doesHear_28 : decode cX7_doesHear 28 = .ok (.bipush 7, 2) := by decide +kernel
theorem dX7_doesHear_30 : decode cX7_doesHear 30 = .ok (.if_icmp .ne 7, 3) := by decide +kernel
theorem dX7_doesHear_33 : decode cX7_doesHear 33 = .ok (.iconst 1, 1) := by decide +kernel
theorem dX7_doesHear_34 : decode cX7_doesHear 34 = .ok (.goto 4, 3) := by decide +kernel
theorem dX7_doesHear_37 : decode cX7_doesHear 37 = .ok (.iconst 0, 1) := by decide +kernel
theorem dX7_doesHear_38 : decode cX7_doesHear 38 = .ok (.ireturn, 1) := by decide +kernel
theorem dX7_comes_0 : decode cX7_comes 0 = .ok (.aload_n 0, 1) := by decide +kernel
theorem dX7_comes_1 : decode cX7_comes 1 = .ok (.getfield 9, 3) := by decide +kernel
theorem dX7_comes_4 : decode cX7_comes 4 = .ok (.iconst 1, 1) := by decide +kernel
theorem dX7_comes_5 : decode cX7_comes 5 = .ok (.iaload, 1) := by decide +kernel
theorem dX7_comes_6 : decode cX7_comes 6 = .ok (.istore 4, 2) := by decide +kernel
theorem dX7_comes_8 : decode cX7_comes 8 = .ok (.aload_n 0, 1) := by decide +kernel
theorem dX7_comes_9 : decode cX7_comes 9 = .ok (.getfield 9, 3) := by decide +kernel
theorem dX7_comes_12 : decode cX7_comes 12 = .ok (.iconst 1, 1) := by decide +kernel
theorem dX7_comes_13 : decode cX7_comes 13 = .ok (.dup2, 1) := by decide +kernel
theorem dX7_comes_14 : decode cX7_comes 14 = .ok (.iaload, 1) := by decide +kernel
theorem dX7_comes_15 : decode cX7_comes 15 = .ok (.iconst 1, 1) := by decide +kernel
theorem dX7_comes_16 : decode cX7_comes 16 = .ok (.iadd, 1) := by decide +kernel
theorem dX7_comes_17 : decode cX7_comes 17 = .ok (.iastore, 1) := by decide +kernel
theorem dX7_comes_18 : decode cX7_comes 18 = .ok (.iconst 0, 1) := by decide +kernel
theorem dX7_comes_19 : decode cX7_comes 19 = .ok (.istore 5, 2) := by decide +kernel
theorem dX7_comes_21 : decode cX7_comes 21 = .ok (.iload 5, 2) := by decide +kernel
theorem dX7_comes_23 : decode cX7_comes 23 = .ok (.bipush 10, 2) := by decide +kernel
theorem dX7_comes_25 : decode cX7_comes 25 = .ok (.if_icmp .ge 18, 3) := by decide +kernel
theorem dX7_comes_28 : decode cX7_comes 28 = .ok (.aload_n 0, 1) := by decide +kernel
theorem dX7_comes_29 : decode cX7_comes 29 = .ok (.iload 4, 2) := by decide +kernel
theorem dX7_comes_31 : decode cX7_comes 31 = .ok (.iload 5, 2) := by decide +kernel
theorem dX7_comes_33 : decode cX7_comes 33 = .ok (.iconst 0, 1) := by decide +kernel
theorem dX7_comes_34 : decode cX7_comes 34 = .ok (.invokevirtual 115, 3) := by decide +kernel
theorem dX7_comes_37 : decode cX7_comes 37 = .ok (.iinc 5 1, 3) := by decide +kernel
theorem dX7_comes_40 : decode cX7_comes 40 = .ok (.goto (-19), 3) := by decide +kernel
theorem dX7_comes_43 : decode cX7_comes 43 = .ok (.aload_n 0, 1) := by decide +kernel
theorem dX7_comes_44 : decode cX7_comes 44 = .ok (.iload 4, 2) := by decide +kernel
theorem dX7_comes_46 : decode cX7_comes 46 = .ok (.iconst 0, 1) := by decide +kernel
theorem dX7_comes_47 : decode cX7_comes 47 = .ok (.iload_n 1, 1) := by decide +kernel
theorem dX7_comes_48 : decode cX7_comes 48 = .ok (.invokevirtual 115, 3) := by decide +kernel
theorem dX7_comes_51 : decode cX7_comes 51 = .ok (.aload_n 0, 1) := by decide +kernel
theorem dX7_comes_52 : decode cX7_comes 52 = .ok (.iload 4, 2) := by decide +kernel
theorem dX7_comes_54 : decode cX7_comes 54 = .ok (.iconst 1, 1) := by decide +kernel
theorem dX7_comes_55 : decode cX7_comes 55 = .ok (.iload_n 2, 1) := by decide +kernel
theorem dX7_comes_56 : decode cX7_comes 56 = .ok (.invokevirtual 115, 3) := by decide +kernel
theorem dX7_comes_59 : decode cX7_comes 59 = .ok (.aload_n 0, 1) := by decide +kernel
theorem dX7_comes_60 : decode cX7_comes 60 = .ok (.iload 4, 2) := by decide +kernel
theorem dX7_comes_62 : decode cX7_comes 62 = .ok (.iconst 2, 1) := by decide +kernel
theorem dX7_comes_63 : decode cX7_comes 63 = .ok (.iload_n 3, 1) := by decide +kernel
theorem dX7_comes_64 : decode cX7_comes 64 = .ok (.invokevirtual 115, 3) := by decide +kernel
theorem dX7_comes_67 : decode cX7_comes 67 = .ok (.iload 4, 2) := by decide +kernel
theorem dX7_comes_69 : decode cX7_comes 69 = .ok (.ireturn, 1) := by decide +kernel
theorem dX7_person_0 : decode cX7_person 0 = .ok (.iload_n 1, 1) := by decide +kernel
theorem dX7_person_1 : decode cX7_person 1 = .ok (.iconst 0, 1) := by decide +kernel
theorem dX7_person_2 : decode cX7_person 2 = .ok (.iconst 5, 1) := by decide +kernel
theorem dX7_person_3 : decode cX7_person 3 = .ok (.invokestatic 75, 3) := by decide +kernel
theorem dX7_person_6 : decode cX7_person 6 = .ok (.ifCond .eq 23, 3) := by decide +kernel
theorem dX7_person_9 : decode cX7_person 9 = .ok (.iload_n 2, 1) := by decide +kernel
theorem dX7_person_10 : decode cX7_person 10 = .ok (.iconst 0, 1) := by decide +kernel
theorem dX7_person_11 : decode cX7_person 11 = .ok (.bipush 7, 2) := by decide +kernel
theorem dX7_person_13 : decode cX7_person 13 = .ok (.invokestatic 75, 3) := by decide +kernel
theorem dX7_person_16 : decode cX7_person 16 = .ok (.ifCond .eq 13, 3) := by decide +kernel
theorem dX7_person_19 : decode cX7_person 19 = .ok (.iload_n 3, 1) := by decide +kernel
theorem dX7_person_20 : decode cX7_person 20 = .ok (.iconst 0, 1) := by decide +kernel
theorem dX7_person_21 : decode cX7_person 21 = .ok (.bipush 9, 2) := by decide +kernel
theorem dX7_person_23 : decode cX7_person 23 = .ok (.invokestatic 75, 3) := by decide +kernel
theorem dX7_person_26 : decode cX7_person 26 = .ok (.ifCond .ne 6, 3) := by decide +kernel
theorem dX7_person_29 : decode cX7_person 29 = .ok (.ldc 119, 2) := by decide +kernel
theorem dX7_person_31 : decode cX7_person 31 = .ok (.ireturn, 1) := by decide +kernel
theorem dX7_person_32 : decode cX7_person 32 = .ok (.aload_n 0, 1) := by decide +kernel
theorem dX7_person_33 : decode cX7_person 33 = .ok (.getfield 9, 3) := by decide +kernel
theorem dX7_person_36 : decode cX7_person 36 = .ok (.iconst 1, 1) := by decide +kernel
theorem dX7_person_37 : decode cX7_person 37 = .ok (.iaload, 1) := by decide +kernel
theorem dX7_person_38 : decode cX7_person 38 = .ok (.bipush 8, 2) := by decide +kernel
theorem dX7_person_40 : decode cX7_person 40 = .ok (.if_icmp .ne 8, 3) := by decide +kernel
theorem dX7_person_43 : decode cX7_person 43 = .ok (.ldc 120, 2) := by decide +kernel
theorem dX7_person_45 : decode cX7_person 45 = .ok (.goto 10, 3) := by decide +kernel
theorem dX7_person_48 : decode cX7_person 48 = .ok (.aload_n 0, 1) := by decide +kernel
theorem dX7_person_49 : decode cX7_person 49 = .ok (.iload_n 1, 1) := by decide +kernel
theorem dX7_person_50 : decode cX7_person 50 = .ok (.iload_n 2, 1) := by decide +kernel
theorem dX7_person_51 : decode cX7_person 51 = .ok (.iload_n 3, 1) := by decide +kernel
theorem dX7_person_52 : decode cX7_person 52 = .ok (.invokevirtual 121, 3) := by decide +kernel
theorem dX7_person_55 : decode cX7_person 55 = .ok (.ireturn, 1) := by decide +kernel
theorem dX7_fieldsOf_0 : decode cX7_fieldsOf 0 = .ok (.iconst 0, 1) := by decide +kernel
theorem dX7_fieldsOf_1 : decode cX7_fieldsOf 1 = .ok (.istore_n 2, 1) := by decide +kernel
theorem dX7_fieldsOf_2 : decode cX7_fieldsOf 2 = .ok (.iconst 0, 1) := by decide +kernel
theorem dX7_fieldsOf_3 : decode cX7_fieldsOf 3 = .ok (.istore_n 3, 1) := by decide +kernel
theorem dX7_fieldsOf_4 : decode cX7_fieldsOf 4 = .ok (.iload_n 3, 1) := by decide +kernel
theorem dX7_fieldsOf_5 : decode cX7_fieldsOf 5 = .ok (.bipush 6, 2) := by decide +kernel
theorem dX7_fieldsOf_7 : decode cX7_fieldsOf 7 = .ok (.if_icmp .ge 28, 3) := by decide +kernel
theorem dX7_fieldsOf_10 : decode cX7_fieldsOf 10 = .ok (.iload_n 2, 1) := by decide +kernel
theorem dX7_fieldsOf_11 : decode cX7_fieldsOf 11 = .ok (.aload_n 0, 1) := by decide +kernel
theorem dX7_fieldsOf_12 : decode cX7_fieldsOf 12 = .ok (.iload_n 1, 1) := by decide +kernel
theorem dX7_fieldsOf_13 : decode cX7_fieldsOf 13 = .ok (.iload_n 3, 1) := by decide +kernel
theorem dX7_fieldsOf_14 : decode cX7_fieldsOf 14 = .ok (.invokevirtual 83, 3) := by decide +kernel
theorem dX7_fieldsOf_17 : decode cX7_fieldsOf 17 = .ok (.ifCond .ne 7, 3) := by decide +kernel
theorem dX7_fieldsOf_20 : decode cX7_fieldsOf 20 = .ok (.iconst 0, 1) := by decide +kernel
theorem dX7_fieldsOf_21 : decode cX7_fieldsOf 21 = .ok (.goto 6, 3) := by decide +kernel
theorem dX7_fieldsOf_24 : decode cX7_fieldsOf 24 = .ok (.iconst 1, 1) := by decide +kernel
theorem dX7_fieldsOf_25 : decode cX7_fieldsOf 25 = .ok (.iload_n 3, 1) := by decide +kernel
theorem dX7_fieldsOf_26 : decode cX7_fieldsOf 26 = .ok (.ishl, 1) := by decide +kernel
theorem dX7_fieldsOf_27 : decode cX7_fieldsOf 27 = .ok (.ior, 1) := by decide +kernel
theorem dX7_fieldsOf_28 : decode cX7_fieldsOf 28 = .ok (.istore_n 2, 1) := by decide +kernel
theorem dX7_fieldsOf_29 : decode cX7_fieldsOf 29 = .ok (.iinc 3 1, 3) := by decide +kernel
theorem dX7_fieldsOf_32 : decode cX7_fieldsOf 32 = .ok (.goto (-28), 3) := by decide +kernel
theorem dX7_fieldsOf_35 : decode cX7_fieldsOf 35 = .ok (.iload_n 2, 1) := by decide +kernel
theorem dX7_fieldsOf_36 : decode cX7_fieldsOf 36 = .ok (.ireturn, 1) := by decide +kernel
theorem dX7_hearers_0 : decode cX7_hearers 0 = .ok (.iconst 0, 1) := by decide +kernel
theorem dX7_hearers_1 : decode cX7_hearers 1 = .ok (.istore_n 2, 1) := by decide +kernel
theorem dX7_hearers_2 : decode cX7_hearers 2 = .ok (.iconst 0, 1) := by decide +kernel
theorem dX7_hearers_3 : decode cX7_hearers 3 = .ok (.istore_n 3, 1) := by decide +kernel
theorem dX7_hearers_4 : decode cX7_hearers 4 = .ok (.iload_n 3, 1) := by decide +kernel
theorem dX7_hearers_5 : decode cX7_hearers 5 = .ok (.aload_n 0, 1) := by decide +kernel
theorem dX7_hearers_6 : decode cX7_hearers 6 = .ok (.getfield 9, 3) := by decide +kernel
theorem dX7_hearers_9 : decode cX7_hearers 9 = .ok (.iconst 1, 1) := by decide +kernel
theorem dX7_hearers_10 : decode cX7_hearers 10 = .ok (.iaload, 1) := by decide +kernel
theorem dX7_hearers_11 : decode cX7_hearers 11 = .ok (.if_icmp .ge 28, 3) := by decide +kernel
theorem dX7_hearers_14 : decode cX7_hearers 14 = .ok (.iload_n 2, 1) := by decide +kernel
theorem dX7_hearers_15 : decode cX7_hearers 15 = .ok (.aload_n 0, 1) := by decide +kernel
theorem dX7_hearers_16 : decode cX7_hearers 16 = .ok (.iload_n 3, 1) := by decide +kernel
theorem dX7_hearers_17 : decode cX7_hearers 17 = .ok (.iload_n 1, 1) := by decide +kernel
theorem dX7_hearers_18 : decode cX7_hearers 18 = .ok (.invokevirtual 124, 3) := by decide +kernel
theorem dX7_hearers_21 : decode cX7_hearers 21 = .ok (.ifCond .eq 9, 3) := by decide +kernel
theorem dX7_hearers_24 : decode cX7_hearers 24 = .ok (.iconst 1, 1) := by decide +kernel
theorem dX7_hearers_25 : decode cX7_hearers 25 = .ok (.iload_n 3, 1) := by decide +kernel
theorem dX7_hearers_26 : decode cX7_hearers 26 = .ok (.ishl, 1) := by decide +kernel
theorem dX7_hearers_27 : decode cX7_hearers 27 = .ok (.goto 4, 3) := by decide +kernel
theorem dX7_hearers_30 : decode cX7_hearers 30 = .ok (.iconst 0, 1) := by decide +kernel
theorem dX7_hearers_31 : decode cX7_hearers 31 = .ok (.ior, 1) := by decide +kernel
theorem dX7_hearers_32 : decode cX7_hearers 32 = .ok (.istore_n 2, 1) := by decide +kernel
theorem dX7_hearers_33 : decode cX7_hearers 33 = .ok (.iinc 3 1, 3) := by decide +kernel
theorem dX7_hearers_36 : decode cX7_hearers 36 = .ok (.goto (-32), 3) := by decide +kernel
theorem dX7_hearers_39 : decode cX7_hearers 39 = .ok (.iload_n 2, 1) := by decide +kernel
theorem dX7_hearers_40 : decode cX7_hearers 40 = .ok (.ireturn, 1) := by decide +kernel
theorem dX7_told_0 : decode cX7_told 0 = .ok (.aload_n 0, 1) := by decide +kernel
theorem dX7_told_1 : decode cX7_told 1 = .ok (.iload_n 1, 1) := by decide +kernel
theorem dX7_told_2 : decode cX7_told 2 = .ok (.invokevirtual 128, 3) := by decide +kernel
theorem dX7_told_5 : decode cX7_told 5 = .ok (.ifCond .eq 13, 3) := by decide +kernel
theorem dX7_told_8 : decode cX7_told 8 = .ok (.iload_n 2, 1) := by decide +kernel
theorem dX7_told_9 : decode cX7_told 9 = .ok (.iconst 0, 1) := by decide +kernel
theorem dX7_told_10 : decode cX7_told 10 = .ok (.bipush 6, 2) := by decide +kernel
theorem dX7_told_12 : decode cX7_told 12 = .ok (.invokestatic 75, 3) := by decide +kernel
theorem dX7_told_15 : decode cX7_told 15 = .ok (.ifCond .ne 6, 3) := by decide +kernel
theorem dX7_told_18 : decode cX7_told 18 = .ok (.ldc 119, 2) := by decide +kernel
theorem dX7_told_20 : decode cX7_told 20 = .ok (.ireturn, 1) := by decide +kernel
theorem dX7_told_21 : decode cX7_told 21 = .ok (.iload_n 2, 1) := by decide +kernel
theorem dX7_told_22 : decode cX7_told 22 = .ok (.iconst 4, 1) := by decide +kernel
theorem dX7_told_23 : decode cX7_told 23 = .ok (.if_icmp .ge 12, 3) := by decide +kernel
theorem dX7_told_26 : decode cX7_told 26 = .ok (.aload_n 0, 1) := by decide +kernel
theorem dX7_told_27 : decode cX7_told 27 = .ok (.iload_n 1, 1) := by decide +kernel
theorem dX7_told_28 : decode cX7_told 28 = .ok (.iload_n 2, 1) := by decide +kernel
theorem dX7_told_29 : decode cX7_told 29 = .ok (.invokevirtual 79, 3) := by decide +kernel
theorem dX7_told_32 : decode cX7_told 32 = .ok (.goto 34, 3) := by decide +kernel
theorem dX7_told_35 : decode cX7_told 35 = .ok (.iload_n 2, 1) := by decide +kernel
theorem dX7_told_36 : decode cX7_told 36 = .ok (.iconst 4, 1) := by decide +kernel
theorem dX7_told_37 : decode cX7_told 37 = .ok (.if_icmp .ne 11, 3) := by decide +kernel
theorem dX7_told_40 : decode cX7_told 40 = .ok (.aload_n 0, 1) := by decide +kernel
theorem dX7_told_41 : decode cX7_told 41 = .ok (.iload_n 1, 1) := by decide +kernel
theorem dX7_told_42 : decode cX7_told 42 = .ok (.invokevirtual 86, 3) := by decide +kernel
theorem dX7_told_45 : decode cX7_told 45 = .ok (.goto 21, 3) := by decide +kernel
theorem dX7_told_48 : decode cX7_told 48 = .ok (.iload_n 2, 1) := by decide +kernel
theorem dX7_told_49 : decode cX7_told 49 = .ok (.iconst 5, 1) := by decide +kernel
theorem dX7_told_50 : decode cX7_told 50 = .ok (.if_icmp .ne 11, 3) := by decide +kernel
theorem dX7_told_53 : decode cX7_told 53 = .ok (.aload_n 0, 1) := by decide +kernel
theorem dX7_told_54 : decode cX7_told 54 = .ok (.iload_n 1, 1) := by decide +kernel
theorem dX7_told_55 : decode cX7_told 55 = .ok (.invokevirtual 132, 3) := by decide +kernel
theorem dX7_told_58 : decode cX7_told 58 = .ok (.goto 8, 3) := by decide +kernel
theorem dX7_told_61 : decode cX7_told 61 = .ok (.aload_n 0, 1) := by decide +kernel
theorem dX7_told_62 : decode cX7_told 62 = .ok (.iload_n 1, 1) := by decide +kernel
theorem dX7_told_63 : decode cX7_told 63 = .ok (.invokevirtual 135, 3) := by decide +kernel
theorem dX7_told_66 : decode cX7_told 66 = .ok (.ireturn, 1) := by decide +kernel
theorem dX7_isUnder_0 : decode cX7_isUnder 0 = .ok (.iload_n 1, 1) := by decide +kernel
theorem dX7_isUnder_1 : decode cX7_isUnder 1 = .ok (.ifCond .eq 28, 3) := by decide +kernel
theorem dX7_isUnder_4 : decode cX7_isUnder 4 = .ok (.iload_n 0, 1) := by decide +kernel
theorem dX7_isUnder_5 : decode cX7_isUnder 5 = .ok (.iload_n 1, 1) := by decide +kernel
theorem dX7_isUnder_6 : decode cX7_isUnder 6 = .ok (.if_icmp .eq 23, 3) := by decide +kernel
theorem dX7_isUnder_9 : decode cX7_isUnder 9 = .ok (.iload_n 1, 1) := by decide +kernel
theorem dX7_isUnder_10 : decode cX7_isUnder 10 = .ok (.iconst 1, 1) := by decide +kernel
theorem dX7_isUnder_11 : decode cX7_isUnder 11 = .ok (.if_icmp .ne 8, 3) := by decide +kernel
theorem dX7_isUnder_14 : decode cX7_isUnder 14 = .ok (.iload_n 0, 1) := by decide +kernel
theorem dX7_isUnder_15 : decode cX7_isUnder 15 = .ok (.iconst 3, 1) := by decide +kernel
theorem dX7_isUnder_16 : decode cX7_isUnder 16 = .ok (.if_icmp .eq 13, 3) := by decide +kernel
theorem dX7_isUnder_19 : decode cX7_isUnder 19 = .ok (.iload_n 1, 1) := by decide +kernel
theorem dX7_isUnder_20 : decode cX7_isUnder 20 = .ok (.iconst 2, 1) := by decide +kernel
theorem dX7_isUnder_21 : decode cX7_isUnder 21 = .ok (.if_icmp .ne 12, 3) := by decide +kernel
theorem dX7_isUnder_24 : decode cX7_isUnder 24 = .ok (.iload_n 0, 1) := by decide +kernel
theorem dX7_isUnder_25 : decode cX7_isUnder 25 = .ok (.iconst 4, 1) := by decide +kernel
theorem dX7_isUnder_26 : decode cX7_isUnder 26 = .ok (.if_icmp .ne 7, 3) := by decide +kernel
theorem dX7_isUnder_29 : decode cX7_isUnder 29 = .ok (.iconst 1, 1) := by decide +kernel
theorem dX7_isUnder_30 : decode cX7_isUnder 30 = .ok (.goto 4, 3) := by decide +kernel
theorem dX7_isUnder_33 : decode cX7_isUnder 33 = .ok (.iconst 0, 1) := by decide +kernel
theorem dX7_isUnder_34 : decode cX7_isUnder 34 = .ok (.ireturn, 1) := by decide +kernel
theorem dX7_as_0 : decode cX7_as 0 = .ok (.aload_n 0, 1) := by decide +kernel
theorem dX7_as_1 : decode cX7_as 1 = .ok (.iload_n 1, 1) := by decide +kernel
theorem dX7_as_2 : decode cX7_as 2 = .ok (.invokevirtual 128, 3) := by decide +kernel
theorem dX7_as_5 : decode cX7_as 5 = .ok (.ifCond .eq 12, 3) := by decide +kernel
theorem dX7_as_8 : decode cX7_as 8 = .ok (.iload_n 2, 1) := by decide +kernel
theorem dX7_as_9 : decode cX7_as 9 = .ok (.iconst 0, 1) := by decide +kernel
theorem dX7_as_10 : decode cX7_as 10 = .ok (.iconst 5, 1) := by decide +kernel
theorem dX7_as_11 : decode cX7_as 11 = .ok (.invokestatic 75, 3) := by decide +kernel
theorem dX7_as_14 : decode cX7_as 14 = .ok (.ifCond .ne 6, 3) := by decide +kernel
theorem dX7_as_17 : decode cX7_as 17 = .ok (.ldc 119, 2) := by decide +kernel
theorem dX7_as_19 : decode cX7_as 19 = .ok (.ireturn, 1) := by decide +kernel
theorem dX7_as_20 : decode cX7_as 20 = .ok (.aload_n 0, 1) := by decide +kernel
theorem dX7_as_21 : decode cX7_as 21 = .ok (.iload_n 1, 1) := by decide +kernel
theorem dX7_as_22 : decode cX7_as 22 = .ok (.iconst 0, 1) := by decide +kernel
theorem dX7_as_23 : decode cX7_as 23 = .ok (.invokevirtual 79, 3) := by decide +kernel
theorem dX7_as_26 : decode cX7_as 26 = .ok (.iload_n 2, 1) := by decide +kernel
theorem dX7_as_27 : decode cX7_as 27 = .ok (.invokestatic 138, 3) := by decide +kernel
theorem dX7_as_30 : decode cX7_as 30 = .ok (.ifCond .eq 12, 3) := by decide +kernel
theorem dX7_as_33 : decode cX7_as 33 = .ok (.aload_n 0, 1) := by decide +kernel
theorem dX7_as_34 : decode cX7_as 34 = .ok (.iload_n 1, 1) := by decide +kernel
theorem dX7_as_35 : decode cX7_as 35 = .ok (.iconst 3, 1) := by decide +kernel
theorem dX7_as_36 : decode cX7_as 36 = .ok (.invokevirtual 79, 3) := by decide +kernel
theorem dX7_as_39 : decode cX7_as 39 = .ok (.goto 5, 3) := by decide +kernel
theorem dX7_as_42 : decode cX7_as 42 = .ok (.ldc 141, 2) := by decide +kernel
theorem dX7_as_44 : decode cX7_as 44 = .ok (.ireturn, 1) := by decide +kernel
theorem dX7_turns_0 : decode cX7_turns 0 = .ok (.aload_n 0, 1) := by decide +kernel
theorem dX7_turns_1 : decode cX7_turns 1 = .ok (.iload_n 1, 1) := by decide +kernel
theorem dX7_turns_2 : decode cX7_turns 2 = .ok (.invokevirtual 128, 3) := by decide +kernel
theorem dX7_turns_5 : decode cX7_turns 5 = .ok (.ifCond .eq 27, 3) := by decide +kernel
theorem dX7_turns_8 : decode cX7_turns 8 = .ok (.iload_n 2, 1) := by decide +kernel
theorem dX7_turns_9 : decode cX7_turns 9 = .ok (.iconst 0, 1) := by decide +kernel
theorem dX7_turns_10 : decode cX7_turns 10 = .ok (.iconst 5, 1) := by decide +kernel
theorem dX7_turns_11 : decode cX7_turns 11 = .ok (.invokestatic 75, 3) := by decide +kernel
theorem dX7_turns_14 : decode cX7_turns 14 = .ok (.ifCond .eq 18, 3) := by decide +kernel
theorem dX7_turns_17 : decode cX7_turns 17 = .ok (.aload_n 0, 1) := by decide +kernel
theorem dX7_turns_18 : decode cX7_turns 18 = .ok (.bipush 19, 2) := by decide +kernel
theorem dX7_turns_20 : decode cX7_turns 20 = .ok (.bipush 10, 2) := by decide +kernel
theorem dX7_turns_22 : decode cX7_turns 22 = .ok (.iload_n 1, 1) := by decide +kernel
theorem dX7_turns_23 : decode cX7_turns 23 = .ok (.imul, 1) := by decide +kernel
theorem dX7_turns_24 : decode cX7_turns 24 = .ok (.iadd, 1) := by decide +kernel
theorem dX7_turns_25 : decode cX7_turns 25 = .ok (.iload_n 2, 1) := by decide +kernel
theorem dX7_turns_26 : decode cX7_turns 26 = .ok (.invokevirtual 142, 3) := by decide +kernel
theorem dX7_turns_29 : decode cX7_turns 29 = .ok (.goto 5, 3) := by decide +kernel
theorem dX7_turns_32 : decode cX7_turns 32 = .ok (.ldc 119, 2) := by decide +kernel
theorem dX7_turns_34 : decode cX7_turns 34 = .ok (.ireturn, 1) := by decide +kernel
theorem dX7_set_0 : decode cX7_set 0 = .ok (.iload_n 2, 1) := by decide +kernel
theorem dX7_set_1 : decode cX7_set 1 = .ok (.iconst 1, 1) := by decide +kernel
theorem dX7_set_2 : decode cX7_set 2 = .ok (.if_icmp .ne 13, 3) := by decide +kernel
theorem dX7_set_5 : decode cX7_set 5 = .ok (.iload_n 3, 1) := by decide +kernel
theorem dX7_set_6 : decode cX7_set 6 = .ok (.iconst 0, 1) := by decide +kernel
theorem dX7_set_7 : decode cX7_set 7 = .ok (.bipush 7, 2) := by decide +kernel
theorem dX7_set_9 : decode cX7_set 9 = .ok (.invokestatic 75, 3) := by decide +kernel
theorem dX7_set_12 : decode cX7_set 12 = .ok (.ifCond .ne 33, 3) := by decide +kernel
theorem dX7_set_15 : decode cX7_set 15 = .ok (.iload_n 2, 1) := by decide +kernel
theorem dX7_set_16 : decode cX7_set 16 = .ok (.iconst 2, 1) := by decide +kernel
theorem dX7_set_17 : decode cX7_set 17 = .ok (.if_icmp .ne 13, 3) := by decide +kernel
theorem dX7_set_20 : decode cX7_set 20 = .ok (.iload_n 3, 1) := by decide +kernel
theorem dX7_set_21 : decode cX7_set 21 = .ok (.iconst 0, 1) := by decide +kernel
theorem dX7_set_22 : decode cX7_set 22 = .ok (.bipush 9, 2) := by decide +kernel
theorem dX7_set_24 : decode cX7_set 24 = .ok (.invokestatic 75, 3) := by decide +kernel
theorem dX7_set_27 : decode cX7_set 27 = .ok (.ifCond .ne 18, 3) := by decide +kernel
theorem dX7_set_30 : decode cX7_set 30 = .ok (.iload_n 2, 1) := by decide +kernel
theorem dX7_set_31 : decode cX7_set 31 = .ok (.iconst 3, 1) := by decide +kernel
theorem dX7_set_32 : decode cX7_set 32 = .ok (.if_icmp .ne 17, 3) := by decide +kernel
theorem dX7_set_35 : decode cX7_set 35 = .ok (.iload_n 3, 1) := by decide +kernel
theorem dX7_set_36 : decode cX7_set 36 = .ok (.iconst 0, 1) := by decide +kernel
theorem dX7_set_37 : decode cX7_set 37 = .ok (.bipush 99, 2) := by decide +kernel
theorem dX7_set_39 : decode cX7_set 39 = .ok (.invokestatic 75, 3) := by decide +kernel
theorem dX7_set_42 : decode cX7_set 42 = .ok (.ifCond .eq 7, 3) := by decide +kernel
theorem dX7_set_45 : decode cX7_set 45 = .ok (.iconst 1, 1) := by decide +kernel
theorem dX7_set_46 : decode cX7_set 46 = .ok (.goto 4, 3) := by decide +kernel
theorem dX7_set_49 : decode cX7_set 49 = .ok (.iconst 0, 1) := by decide +kernel
theorem dX7_set_50 : decode cX7_set 50 = .ok (.istore 4, 2) := by decide +kernel
theorem dX7_set_52 : decode cX7_set 52 = .ok (.aload_n 0, 1) := by decide +kernel
theorem dX7_set_53 : decode cX7_set 53 = .ok (.iload_n 1, 1) := by decide +kernel
theorem dX7_set_54 : decode cX7_set 54 = .ok (.invokevirtual 128, 3) := by decide +kernel
theorem dX7_set_57 : decode cX7_set 57 = .ok (.ifCond .eq 25, 3) := by decide +kernel
theorem dX7_set_60 : decode cX7_set 60 = .ok (.iload 4, 2) := by decide +kernel
theorem dX7_set_62 : decode cX7_set 62 = .ok (.ifCond .eq 20, 3) := by decide +kernel
theorem dX7_set_65 : decode cX7_set 65 = .ok (.aload_n 0, 1) := by decide +kernel
theorem dX7_set_66 : decode cX7_set 66 = .ok (.bipush 19, 2) := by decide +kernel
theorem dX7_set_68 : decode cX7_set 68 = .ok (.bipush 10, 2) := by decide +kernel
theorem dX7_set_70 : decode cX7_set 70 = .ok (.iload_n 1, 1) := by decide +kernel
theorem dX7_set_71 : decode cX7_set 71 = .ok (.imul, 1) := by decide +kernel
theorem dX7_set_72 : decode cX7_set 72 = .ok (.iadd, 1) := by decide +kernel
theorem dX7_set_73 : decode cX7_set 73 = .ok (.iload_n 2, 1) := by decide +kernel
theorem dX7_set_74 : decode cX7_set 74 = .ok (.iadd, 1) := by decide +kernel
theorem dX7_set_75 : decode cX7_set 75 = .ok (.iload_n 3, 1) := by decide +kernel
theorem dX7_set_76 : decode cX7_set 76 = .ok (.invokevirtual 142, 3) := by decide +kernel
theorem dX7_set_79 : decode cX7_set 79 = .ok (.goto 5, 3) := by decide +kernel
theorem dX7_set_82 : decode cX7_set 82 = .ok (.ldc 119, 2) := by decide +kernel
theorem dX7_set_84 : decode cX7_set 84 = .ok (.ireturn, 1) := by decide +kernel
theorem dX7_thought_0 : decode cX7_thought 0 = .ok (.aload_n 0, 1) := by decide +kernel
theorem dX7_thought_1 : decode cX7_thought 1 = .ok (.iload_n 1, 1) := by decide +kernel
theorem dX7_thought_2 : decode cX7_thought 2 = .ok (.invokevirtual 128, 3) := by decide +kernel
theorem dX7_thought_5 : decode cX7_thought 5 = .ok (.ifCond .eq 19, 3) := by decide +kernel
theorem dX7_thought_8 : decode cX7_thought 8 = .ok (.iload_n 2, 1) := by decide +kernel
theorem dX7_thought_9 : decode cX7_thought 9 = .ok (.invokestatic 145, 3) := by decide +kernel
theorem dX7_thought_12 : decode cX7_thought 12 = .ok (.ifCond .eq 12, 3) := by decide +kernel
theorem dX7_thought_15 : decode cX7_thought 15 = .ok (.aload_n 0, 1) := by decide +kernel
theorem dX7_thought_16 : decode cX7_thought 16 = .ok (.iload_n 1, 1) := by decide +kernel
theorem dX7_thought_17 : decode cX7_thought 17 = .ok (.iload_n 2, 1) := by decide +kernel
theorem dX7_thought_18 : decode cX7_thought 18 = .ok (.invokevirtual 83, 3) := by decide +kernel
theorem dX7_thought_21 : decode cX7_thought 21 = .ok (.goto 5, 3) := by decide +kernel
theorem dX7_thought_24 : decode cX7_thought 24 = .ok (.ldc 119, 2) := by decide +kernel
theorem dX7_thought_26 : decode cX7_thought 26 = .ok (.ireturn, 1) := by decide +kernel
theorem dX7_lets_0 : decode cX7_lets 0 = .ok (.aload_n 0, 1) := by decide +kernel
theorem dX7_lets_1 : decode cX7_lets 1 = .ok (.iload_n 1, 1) := by decide +kernel
theorem dX7_lets_2 : decode cX7_lets 2 = .ok (.invokevirtual 128, 3) := by decide +kernel
theorem dX7_lets_5 : decode cX7_lets 5 = .ok (.ifCond .eq 39, 3) := by decide +kernel
theorem dX7_lets_8 : decode cX7_lets 8 = .ok (.iload_n 2, 1) := by decide +kernel
theorem dX7_lets_9 : decode cX7_lets 9 = .ok (.invokestatic 145, 3) := by decide +kernel
theorem dX7_lets_12 : decode cX7_lets 12 = .ok (.ifCond .eq 32, 3) := by decide +kernel
theorem dX7_lets_15 : decode cX7_lets 15 = .ok (.iload_n 3, 1) := by decide +kernel
theorem dX7_lets_16 : decode cX7_lets 16 = .ok (.iconst 0, 1) := by decide +kernel
theorem dX7_lets_17 : decode cX7_lets 17 = .ok (.bipush 9, 2) := by decide +kernel
theorem dX7_lets_19 : decode cX7_lets 19 = .ok (.invokestatic 75, 3) := by decide +kernel
theorem dX7_lets_22 : decode cX7_lets 22 = .ok (.ifCond .eq 22, 3) := by decide +kernel
theorem dX7_lets_25 : decode cX7_lets 25 = .ok (.aload_n 0, 1) := by decide +kernel
theorem dX7_lets_26 : decode cX7_lets 26 = .ok (.bipush 19, 2) := by decide +kernel
theorem dX7_lets_28 : decode cX7_lets 28 = .ok (.bipush 10, 2) := by decide +kernel
theorem dX7_lets_30 : decode cX7_lets 30 = .ok (.iload_n 1, 1) := by decide +kernel
theorem dX7_lets_31 : decode cX7_lets 31 = .ok (.imul, 1) := by decide +kernel
theorem dX7_lets_32 : decode cX7_lets 32 = .ok (.iadd, 1) := by decide +kernel
theorem dX7_lets_33 : decode cX7_lets 33 = .ok (.iconst 4, 1) := by decide +kernel
theorem dX7_lets_34 : decode cX7_lets 34 = .ok (.iadd, 1) := by decide +kernel
theorem dX7_lets_35 : decode cX7_lets 35 = .ok (.iload_n 2, 1) := by decide +kernel
theorem dX7_lets_36 : decode cX7_lets 36 = .ok (.iadd, 1) := by decide +kernel
theorem dX7_lets_37 : decode cX7_lets 37 = .ok (.iload_n 3, 1) := by decide +kernel
theorem dX7_lets_38 : decode cX7_lets 38 = .ok (.invokevirtual 142, 3) := by decide +kernel
theorem dX7_lets_41 : decode cX7_lets 41 = .ok (.goto 5, 3) := by decide +kernel
theorem dX7_lets_44 : decode cX7_lets 44 = .ok (.ldc 119, 2) := by decide +kernel
theorem dX7_lets_46 : decode cX7_lets 46 = .ok (.ireturn, 1) := by decide +kernel
theorem dX7_says_0 : decode cX7_says 0 = .ok (.aload_n 0, 1) := by decide +kernel
theorem dX7_says_1 : decode cX7_says 1 = .ok (.iload_n 1, 1) := by decide +kernel
theorem dX7_says_2 : decode cX7_says 2 = .ok (.invokevirtual 128, 3) := by decide +kernel
theorem dX7_says_5 : decode cX7_says 5 = .ok (.ifCond .eq 19, 3) := by decide +kernel
theorem dX7_says_8 : decode cX7_says 8 = .ok (.iload_n 2, 1) := by decide +kernel
theorem dX7_says_9 : decode cX7_says 9 = .ok (.invokestatic 145, 3) := by decide +kernel
theorem dX7_says_12 : decode cX7_says 12 = .ok (.ifCond .eq 12, 3) := by decide +kernel
theorem dX7_says_15 : decode cX7_says 15 = .ok (.aload_n 0, 1) := by decide +kernel
theorem dX7_says_16 : decode cX7_says 16 = .ok (.iload_n 1, 1) := by decide +kernel
theorem dX7_says_17 : decode cX7_says 17 = .ok (.iload_n 2, 1) := by decide +kernel
theorem dX7_says_18 : decode cX7_says 18 = .ok (.invokevirtual 148, 3) := by decide +kernel
theorem dX7_says_21 : decode cX7_says 21 = .ok (.goto 5, 3) := by decide +kernel
theorem dX7_says_24 : decode cX7_says 24 = .ok (.ldc 119, 2) := by decide +kernel
theorem dX7_says_26 : decode cX7_says 26 = .ok (.ireturn, 1) := by decide +kernel
theorem dX7_heeds_0 : decode cX7_heeds 0 = .ok (.aload_n 0, 1) := by decide +kernel
theorem dX7_heeds_1 : decode cX7_heeds 1 = .ok (.iload_n 1, 1) := by decide +kernel
theorem dX7_heeds_2 : decode cX7_heeds 2 = .ok (.invokevirtual 128, 3) := by decide +kernel
theorem dX7_heeds_5 : decode cX7_heeds 5 = .ok (.ifCond .eq 30, 3) := by decide +kernel
theorem dX7_heeds_8 : decode cX7_heeds 8 = .ok (.iload_n 2, 1) := by decide +kernel
theorem dX7_heeds_9 : decode cX7_heeds 9 = .ok (.invokestatic 145, 3) := by decide +kernel
theorem dX7_heeds_12 : decode cX7_heeds 12 = .ok (.ifCond .eq 23, 3) := by decide +kernel
theorem dX7_heeds_15 : decode cX7_heeds 15 = .ok (.iload_n 3, 1) := by decide +kernel
theorem dX7_heeds_16 : decode cX7_heeds 16 = .ok (.iconst 1, 1) := by decide +kernel
theorem dX7_heeds_17 : decode cX7_heeds 17 = .ok (.bipush 9, 2) := by decide +kernel
theorem dX7_heeds_19 : decode cX7_heeds 19 = .ok (.invokestatic 75, 3) := by decide +kernel
theorem dX7_heeds_22 : decode cX7_heeds 22 = .ok (.ifCond .eq 13, 3) := by decide +kernel
theorem dX7_heeds_25 : decode cX7_heeds 25 = .ok (.aload_n 0, 1) := by decide +kernel
theorem dX7_heeds_26 : decode cX7_heeds 26 = .ok (.iload_n 1, 1) := by decide +kernel
theorem dX7_heeds_27 : decode cX7_heeds 27 = .ok (.iload_n 2, 1) := by decide +kernel
theorem dX7_heeds_28 : decode cX7_heeds 28 = .ok (.iload_n 3, 1) := by decide +kernel
theorem dX7_heeds_29 : decode cX7_heeds 29 = .ok (.invokevirtual 151, 3) := by decide +kernel
theorem dX7_heeds_32 : decode cX7_heeds 32 = .ok (.goto 5, 3) := by decide +kernel
theorem dX7_heeds_35 : decode cX7_heeds 35 = .ok (.ldc 119, 2) := by decide +kernel
theorem dX7_heeds_37 : decode cX7_heeds 37 = .ok (.ireturn, 1) := by decide +kernel
theorem dX7_sow_0 : decode cX7_sow 0 = .ok (.iload_n 1, 1) := by decide +kernel
theorem dX7_sow_1 : decode cX7_sow 1 = .ok (.invokestatic 145, 3) := by decide +kernel
theorem dX7_sow_4 : decode cX7_sow 4 = .ok (.ifCond .eq 25, 3) := by decide +kernel
theorem dX7_sow_7 : decode cX7_sow 7 = .ok (.iload_n 2, 1) := by decide +kernel
theorem dX7_sow_8 : decode cX7_sow 8 = .ok (.iconst 0, 1) := by decide +kernel
theorem dX7_sow_9 : decode cX7_sow 9 = .ok (.bipush 9, 2) := by decide +kernel
theorem dX7_sow_11 : decode cX7_sow 11 = .ok (.invokestatic 75, 3) := by decide +kernel
theorem dX7_sow_14 : decode cX7_sow 14 = .ok (.ifCond .eq 15, 3) := by decide +kernel
theorem dX7_sow_17 : decode cX7_sow 17 = .ok (.aload_n 0, 1) := by decide +kernel
theorem dX7_sow_18 : decode cX7_sow 18 = .ok (.bipush 7, 2) := by decide +kernel
theorem dX7_sow_20 : decode cX7_sow 20 = .ok (.iload_n 1, 1) := by decide +kernel
theorem dX7_sow_21 : decode cX7_sow 21 = .ok (.iadd, 1) := by decide +kernel
theorem dX7_sow_22 : decode cX7_sow 22 = .ok (.iload_n 2, 1) := by decide +kernel
theorem dX7_sow_23 : decode cX7_sow 23 = .ok (.invokevirtual 142, 3) := by decide +kernel
theorem dX7_sow_26 : decode cX7_sow 26 = .ok (.goto 5, 3) := by decide +kernel
theorem dX7_sow_29 : decode cX7_sow 29 = .ok (.ldc 119, 2) := by decide +kernel
theorem dX7_sow_31 : decode cX7_sow 31 = .ok (.ireturn, 1) := by decide +kernel
theorem dX7_field_0 : decode cX7_field 0 = .ok (.iload_n 1, 1) := by decide +kernel
theorem dX7_field_1 : decode cX7_field 1 = .ok (.invokestatic 145, 3) := by decide +kernel
theorem dX7_field_4 : decode cX7_field 4 = .ok (.ifCond .ne 6, 3) := by decide +kernel
theorem dX7_field_7 : decode cX7_field 7 = .ok (.ldc 119, 2) := by decide +kernel
theorem dX7_field_9 : decode cX7_field 9 = .ok (.ireturn, 1) := by decide +kernel
theorem dX7_field_10 : decode cX7_field 10 = .ok (.aload_n 0, 1) := by decide +kernel
theorem dX7_field_11 : decode cX7_field 11 = .ok (.iload_n 1, 1) := by decide +kernel
theorem dX7_field_12 : decode cX7_field 12 = .ok (.invokevirtual 93, 3) := by decide +kernel
theorem dX7_field_15 : decode cX7_field 15 = .ok (.istore_n 3, 1) := by decide +kernel
theorem dX7_field_16 : decode cX7_field 16 = .ok (.iload_n 2, 1) := by decide +kernel
theorem dX7_field_17 : decode cX7_field 17 = .ok (.tableswitch 87 0 4 #[35, 45, 55, 57, 72], 35) := by decide +kernel
theorem dX7_field_52 : decode cX7_field 52 = .ok (.aload_n 0, 1) := by decide +kernel
theorem dX7_field_53 : decode cX7_field 53 = .ok (.getfield 9, 3) := by decide +kernel
theorem dX7_field_56 : decode cX7_field 56 = .ok (.bipush 7, 2) := by decide +kernel
theorem dX7_field_58 : decode cX7_field 58 = .ok (.iload_n 1, 1) := by decide +kernel
theorem dX7_field_59 : decode cX7_field 59 = .ok (.iadd, 1) := by decide +kernel
theorem dX7_field_60 : decode cX7_field 60 = .ok (.iaload, 1) := by decide +kernel
theorem dX7_field_61 : decode cX7_field 61 = .ok (.ireturn, 1) := by decide +kernel
theorem dX7_field_62 : decode cX7_field 62 = .ok (.aload_n 0, 1) := by decide +kernel
theorem dX7_field_63 : decode cX7_field 63 = .ok (.getfield 9, 3) := by decide +kernel
theorem dX7_field_66 : decode cX7_field 66 = .ok (.bipush 13, 2) := by decide +kernel
theorem dX7_field_68 : decode cX7_field 68 = .ok (.iload_n 1, 1) := by decide +kernel
theorem dX7_field_69 : decode cX7_field 69 = .ok (.iadd, 1) := by decide +kernel
theorem dX7_field_70 : decode cX7_field 70 = .ok (.iaload, 1) := by decide +kernel
theorem dX7_field_71 : decode cX7_field 71 = .ok (.ireturn, 1) := by decide +kernel
theorem dX7_field_72 : decode cX7_field 72 = .ok (.iload_n 3, 1) := by decide +kernel
theorem dX7_field_73 : decode cX7_field 73 = .ok (.ireturn, 1) := by decide +kernel
theorem dX7_field_74 : decode cX7_field 74 = .ok (.iload_n 3, 1) := by decide +kernel
theorem dX7_field_75 : decode cX7_field 75 = .ok (.ifCond .ne 7, 3) := by decide +kernel
theorem dX7_field_78 : decode cX7_field 78 = .ok (.iconst 0, 1) := by decide +kernel
theorem dX7_field_79 : decode cX7_field 79 = .ok (.goto 9, 3) := by decide +kernel
theorem dX7_field_82 : decode cX7_field 82 = .ok (.aload_n 0, 1) := by decide +kernel
theorem dX7_field_83 : decode cX7_field 83 = .ok (.iload_n 1, 1) := by decide +kernel
theorem dX7_field_84 : decode cX7_field 84 = .ok (.iload_n 3, 1) := by decide +kernel
theorem dX7_field_85 : decode cX7_field 85 = .ok (.invokevirtual 90, 3) := by decide +kernel
theorem dX7_field_88 : decode cX7_field 88 = .ok (.ireturn, 1) := by decide +kernel
theorem dX7_field_89 : decode cX7_field 89 = .ok (.iload_n 3, 1) := by decide +kernel
theorem dX7_field_90 : decode cX7_field 90 = .ok (.ifCond .ne 7, 3) := by decide +kernel
theorem dX7_field_93 : decode cX7_field 93 = .ok (.iconst 0, 1) := by decide +kernel
theorem dX7_field_94 : decode cX7_field 94 = .ok (.goto 9, 3) := by decide +kernel
theorem dX7_field_97 : decode cX7_field 97 = .ok (.aload_n 0, 1) := by decide +kernel
theorem dX7_field_98 : decode cX7_field 98 = .ok (.iload_n 1, 1) := by decide +kernel
theorem dX7_field_99 : decode cX7_field 99 = .ok (.iload_n 3, 1) := by decide +kernel
theorem dX7_field_100 : decode cX7_field 100 = .ok (.invokevirtual 96, 3) := by decide +kernel
theorem dX7_field_103 : decode cX7_field 103 = .ok (.ireturn, 1) := by decide +kernel
theorem dX7_field_104 : decode cX7_field 104 = .ok (.ldc 119, 2) := by decide +kernel
theorem dX7_field_106 : decode cX7_field 106 = .ok (.ireturn, 1) := by decide +kernel
theorem dX7_votes_0 : decode cX7_votes 0 = .ok (.iload_n 1, 1) := by decide +kernel
theorem dX7_votes_1 : decode cX7_votes 1 = .ok (.invokestatic 145, 3) := by decide +kernel
theorem dX7_votes_4 : decode cX7_votes 4 = .ok (.ifCond .eq 22, 3) := by decide +kernel
theorem dX7_votes_7 : decode cX7_votes 7 = .ok (.iload_n 2, 1) := by decide +kernel
theorem dX7_votes_8 : decode cX7_votes 8 = .ok (.iconst 1, 1) := by decide +kernel
theorem dX7_votes_9 : decode cX7_votes 9 = .ok (.bipush 9, 2) := by decide +kernel
theorem dX7_votes_11 : decode cX7_votes 11 = .ok (.invokestatic 75, 3) := by decide +kernel
theorem dX7_votes_14 : decode cX7_votes 14 = .ok (.ifCond .eq 12, 3) := by decide +kernel
theorem dX7_votes_17 : decode cX7_votes 17 = .ok (.aload_n 0, 1) := by decide +kernel
theorem dX7_votes_18 : decode cX7_votes 18 = .ok (.iload_n 1, 1) := by decide +kernel
theorem dX7_votes_19 : decode cX7_votes 19 = .ok (.iload_n 2, 1) := by decide +kernel
theorem dX7_votes_20 : decode cX7_votes 20 = .ok (.invokevirtual 90, 3) := by decide +kernel
theorem dX7_votes_23 : decode cX7_votes 23 = .ok (.goto 5, 3) := by decide +kernel
theorem dX7_votes_26 : decode cX7_votes 26 = .ok (.ldc 119, 2) := by decide +kernel
theorem dX7_votes_28 : decode cX7_votes 28 = .ok (.ireturn, 1) := by decide +kernel
theorem dX7_draw_0 : decode cX7_draw 0 = .ok (.aload_n 0, 1) := by decide +kernel
theorem dX7_draw_1 : decode cX7_draw 1 = .ok (.getfield 9, 3) := by decide +kernel
theorem dX7_draw_4 : decode cX7_draw 4 = .ok (.iconst 0, 1) := by decide +kernel
theorem dX7_draw_5 : decode cX7_draw 5 = .ok (.aload_n 0, 1) := by decide +kernel
theorem dX7_draw_6 : decode cX7_draw 6 = .ok (.getfield 9, 3) := by decide +kernel
theorem dX7_draw_9 : decode cX7_draw 9 = .ok (.iconst 0, 1) := by decide +kernel
theorem dX7_draw_10 : decode cX7_draw 10 = .ok (.iaload, 1) := by decide +kernel
theorem dX7_draw_11 : decode cX7_draw 11 = .ok (.ldc 154, 2) := by decide +kernel
theorem dX7_draw_13 : decode cX7_draw 13 = .ok (.imul, 1) := by decide +kernel
theorem dX7_draw_14 : decode cX7_draw 14 = .ok (.sipush 12345, 3) := by decide +kernel
theorem dX7_draw_17 : decode cX7_draw 17 = .ok (.iadd, 1) := by decide +kernel
theorem dX7_draw_18 : decode cX7_draw 18 = .ok (.iastore, 1) := by decide +kernel
theorem dX7_draw_19 : decode cX7_draw 19 = .ok (.aload_n 0, 1) := by decide +kernel
theorem dX7_draw_20 : decode cX7_draw 20 = .ok (.getfield 9, 3) := by decide +kernel
theorem dX7_draw_23 : decode cX7_draw 23 = .ok (.iconst 0, 1) := by decide +kernel
theorem dX7_draw_24 : decode cX7_draw 24 = .ok (.iaload, 1) := by decide +kernel
theorem dX7_draw_25 : decode cX7_draw 25 = .ok (.bipush 8, 2) := by decide +kernel
theorem dX7_draw_27 : decode cX7_draw 27 = .ok (.iushr, 1) := by decide +kernel
theorem dX7_draw_28 : decode cX7_draw 28 = .ok (.ireturn, 1) := by decide +kernel
theorem dX7_deal_0 : decode cX7_deal 0 = .ok (.iload_n 1, 1) := by decide +kernel
theorem dX7_deal_1 : decode cX7_deal 1 = .ok (.iconst 1, 1) := by decide +kernel
theorem dX7_deal_2 : decode cX7_deal 2 = .ok (.bipush 8, 2) := by decide +kernel
theorem dX7_deal_4 : decode cX7_deal 4 = .ok (.invokestatic 75, 3) := by decide +kernel
theorem dX7_deal_7 : decode cX7_deal 7 = .ok (.ifCond .ne 6, 3) := by decide +kernel
theorem dX7_deal_10 : decode cX7_deal 10 = .ok (.ldc 119, 2) := by decide +kernel
theorem dX7_deal_12 : decode cX7_deal 12 = .ok (.ireturn, 1) := by decide +kernel
theorem dX7_deal_13 : decode cX7_deal 13 = .ok (.iconst 0, 1) := by decide +kernel
theorem dX7_deal_14 : decode cX7_deal 14 = .ok (.istore_n 2, 1) := by decide +kernel
theorem dX7_deal_15 : decode cX7_deal 15 = .ok (.iload_n 2, 1) := by decide +kernel
theorem dX7_deal_16 : decode cX7_deal 16 = .ok (.iload_n 1, 1) := by decide +kernel
theorem dX7_deal_17 : decode cX7_deal 17 = .ok (.if_icmp .ge 53, 3) := by decide +kernel
theorem dX7_deal_20 : decode cX7_deal 20 = .ok (.aload_n 0, 1) := by decide +kernel
theorem dX7_deal_21 : decode cX7_deal 21 = .ok (.getfield 9, 3) := by decide +kernel
theorem dX7_deal_24 : decode cX7_deal 24 = .ok (.iconst 1, 1) := by decide +kernel
theorem dX7_deal_25 : decode cX7_deal 25 = .ok (.iaload, 1) := by decide +kernel
theorem dX7_deal_26 : decode cX7_deal 26 = .ok (.bipush 8, 2) := by decide +kernel
theorem dX7_deal_28 : decode cX7_deal 28 = .ok (.if_icmp .ge 42, 3) := by decide +kernel
theorem dX7_deal_31 : decode cX7_deal 31 = .ok (.aload_n 0, 1) := by decide +kernel
theorem dX7_deal_32 : decode cX7_deal 32 = .ok (.invokevirtual 155, 3) := by decide +kernel
theorem dX7_deal_35 : decode cX7_deal 35 = .ok (.bipush 6, 2) := by decide +kernel
theorem dX7_deal_37 : decode cX7_deal 37 = .ok (.irem, 1) := by decide +kernel
theorem dX7_deal_38 : decode cX7_deal 38 = .ok (.istore_n 3, 1) := by decide +kernel
theorem dX7_deal_39 : decode cX7_deal 39 = .ok (.aload_n 0, 1) := by decide +kernel
theorem dX7_deal_40 : decode cX7_deal 40 = .ok (.invokevirtual 155, 3) := by decide +kernel
theorem dX7_deal_43 : decode cX7_deal 43 = .ok (.bipush 8, 2) := by decide +kernel
theorem dX7_deal_45 : decode cX7_deal 45 = .ok (.irem, 1) := by decide +kernel
theorem dX7_deal_46 : decode cX7_deal 46 = .ok (.istore 4, 2) := by decide +kernel
theorem dX7_deal_48 : decode cX7_deal 48 = .ok (.aload_n 0, 1) := by decide +kernel
theorem dX7_deal_49 : decode cX7_deal 49 = .ok (.iload_n 3, 1) := by decide +kernel
theorem dX7_deal_50 : decode cX7_deal 50 = .ok (.iload 4, 2) := by decide +kernel
theorem dX7_deal_52 : decode cX7_deal 52 = .ok (.aload_n 0, 1) := by decide +kernel
theorem dX7_deal_53 : decode cX7_deal 53 = .ok (.invokevirtual 155, 3) := by decide +kernel
theorem dX7_deal_56 : decode cX7_deal 56 = .ok (.bipush 10, 2) := by decide +kernel
theorem dX7_deal_58 : decode cX7_deal 58 = .ok (.irem, 1) := by decide +kernel
theorem dX7_deal_59 : decode cX7_deal 59 = .ok (.invokevirtual 121, 3) := by decide +kernel
theorem dX7_deal_62 : decode cX7_deal 62 = .ok (.istore 5, 2) := by decide +kernel
theorem dX7_deal_64 : decode cX7_deal 64 = .ok (.iinc 2 1, 3) := by decide +kernel
theorem dX7_deal_67 : decode cX7_deal 67 = .ok (.goto (-52), 3) := by decide +kernel
theorem dX7_deal_70 : decode cX7_deal 70 = .ok (.iload_n 2, 1) := by decide +kernel
theorem dX7_deal_71 : decode cX7_deal 71 = .ok (.ireturn, 1) := by decide +kernel
theorem dX7_seed_0 : decode cX7_seed 0 = .ok (.aload_n 0, 1) := by decide +kernel
theorem dX7_seed_1 : decode cX7_seed 1 = .ok (.iconst 0, 1) := by decide +kernel
theorem dX7_seed_2 : decode cX7_seed 2 = .ok (.iload_n 1, 1) := by decide +kernel
theorem dX7_seed_3 : decode cX7_seed 3 = .ok (.invokevirtual 142, 3) := by decide +kernel
theorem dX7_seed_6 : decode cX7_seed 6 = .ok (.ireturn, 1) := by decide +kernel
theorem dX7_hears_0 : decode cX7_hears 0 = .ok (.aload_n 0, 1) := by decide +kernel
theorem dX7_hears_1 : decode cX7_hears 1 = .ok (.iload_n 1, 1) := by decide +kernel
theorem dX7_hears_2 : decode cX7_hears 2 = .ok (.iload_n 2, 1) := by decide +kernel
theorem dX7_hears_3 : decode cX7_hears 3 = .ok (.iload_n 3, 1) := by decide +kernel
theorem dX7_hears_4 : decode cX7_hears 4 = .ok (.invokevirtual 151, 3) := by decide +kernel
theorem dX7_hears_7 : decode cX7_hears 7 = .ok (.istore 4, 2) := by decide +kernel
theorem dX7_hears_9 : decode cX7_hears 9 = .ok (.iload 4, 2) := by decide +kernel
theorem dX7_hears_11 : decode cX7_hears 11 = .ok (.aload_n 0, 1) := by decide +kernel
theorem dX7_hears_12 : decode cX7_hears 12 = .ok (.iload_n 1, 1) := by decide +kernel
theorem dX7_hears_13 : decode cX7_hears 13 = .ok (.iconst 3, 1) := by decide +kernel
theorem dX7_hears_14 : decode cX7_hears 14 = .ok (.invokevirtual 79, 3) := by decide +kernel
theorem dX7_hears_17 : decode cX7_hears 17 = .ok (.if_icmp .le 7, 3) := by decide +kernel
theorem dX7_hears_20 : decode cX7_hears 20 = .ok (.iconst 1, 1) := by decide +kernel
theorem dX7_hears_21 : decode cX7_hears 21 = .ok (.goto 4, 3) := by decide +kernel
theorem dX7_hears_24 : decode cX7_hears 24 = .ok (.iconst 0, 1) := by decide +kernel
theorem dX7_hears_25 : decode cX7_hears 25 = .ok (.istore 5, 2) := by decide +kernel
theorem dX7_hears_27 : decode cX7_hears 27 = .ok (.aload_n 0, 1) := by decide +kernel
theorem dX7_hears_28 : decode cX7_hears 28 = .ok (.iload_n 1, 1) := by decide +kernel
theorem dX7_hears_29 : decode cX7_hears 29 = .ok (.iconst 4, 1) := by decide +kernel
theorem dX7_hears_30 : decode cX7_hears 30 = .ok (.iload_n 2, 1) := by decide +kernel
theorem dX7_hears_31 : decode cX7_hears 31 = .ok (.iadd, 1) := by decide +kernel
theorem dX7_hears_32 : decode cX7_hears 32 = .ok (.iload 5, 2) := by decide +kernel
theorem dX7_hears_34 : decode cX7_hears 34 = .ok (.ifCond .eq 7, 3) := by decide +kernel
theorem dX7_hears_37 : decode cX7_hears 37 = .ok (.iload_n 3, 1) := by decide +kernel
theorem dX7_hears_38 : decode cX7_hears 38 = .ok (.goto 9, 3) := by decide +kernel
theorem dX7_hears_41 : decode cX7_hears 41 = .ok (.aload_n 0, 1) := by decide +kernel
theorem dX7_hears_42 : decode cX7_hears 42 = .ok (.iload_n 1, 1) := by decide +kernel
theorem dX7_hears_43 : decode cX7_hears 43 = .ok (.iload_n 2, 1) := by decide +kernel
theorem dX7_hears_44 : decode cX7_hears 44 = .ok (.invokevirtual 83, 3) := by decide +kernel
theorem dX7_hears_47 : decode cX7_hears 47 = .ok (.invokevirtual 115, 3) := by decide +kernel
theorem dX7_hears_50 : decode cX7_hears 50 = .ok (.aload_n 0, 1) := by decide +kernel
theorem dX7_hears_51 : decode cX7_hears 51 = .ok (.iload_n 1, 1) := by decide +kernel
theorem dX7_hears_52 : decode cX7_hears 52 = .ok (.iconst 3, 1) := by decide +kernel
theorem dX7_hears_53 : decode cX7_hears 53 = .ok (.iload 5, 2) := by decide +kernel
theorem dX7_hears_55 : decode cX7_hears 55 = .ok (.ifCond .eq 14, 3) := by decide +kernel
theorem dX7_hears_58 : decode cX7_hears 58 = .ok (.iload 4, 2) := by decide +kernel
theorem dX7_hears_60 : decode cX7_hears 60 = .ok (.iconst 0, 1) := by decide +kernel
theorem dX7_hears_61 : decode cX7_hears 61 = .ok (.bipush 99, 2) := by decide +kernel
theorem dX7_hears_63 : decode cX7_hears 63 = .ok (.invokestatic 108, 3) := by decide +kernel
theorem dX7_hears_66 : decode cX7_hears 66 = .ok (.goto 17, 3) := by decide +kernel
theorem dX7_hears_69 : decode cX7_hears 69 = .ok (.aload_n 0, 1) := by decide +kernel
theorem dX7_hears_70 : decode cX7_hears 70 = .ok (.iload_n 1, 1) := by decide +kernel
theorem dX7_hears_71 : decode cX7_hears 71 = .ok (.iconst 3, 1) := by decide +kernel
theorem dX7_hears_72 : decode cX7_hears 72 = .ok (.invokevirtual 79, 3) := by decide +kernel
theorem dX7_hears_75 : decode cX7_hears 75 = .ok (.iconst 1, 1) := by decide +kernel
theorem dX7_hears_76 : decode cX7_hears 76 = .ok (.isub, 1) := by decide +kernel
theorem dX7_hears_77 : decode cX7_hears 77 = .ok (.iconst 0, 1) := by decide +kernel
theorem dX7_hears_78 : decode cX7_hears 78 = .ok (.bipush 99, 2) := by decide +kernel
theorem dX7_hears_80 : decode cX7_hears 80 = .ok (.invokestatic 108, 3) := by decide +kernel
theorem dX7_hears_83 : decode cX7_hears 83 = .ok (.invokevirtual 115, 3) := by decide +kernel
theorem dX7_hears_86 : decode cX7_hears 86 = .ok (.aload_n 0, 1) := by decide +kernel
theorem dX7_hears_87 : decode cX7_hears 87 = .ok (.getfield 9, 3) := by decide +kernel
theorem dX7_hears_90 : decode cX7_hears 90 = .ok (.iconst 5, 1) := by decide +kernel
theorem dX7_hears_91 : decode cX7_hears 91 = .ok (.dup2, 1) := by decide +kernel
theorem dX7_hears_92 : decode cX7_hears 92 = .ok (.iaload, 1) := by decide +kernel
theorem dX7_hears_93 : decode cX7_hears 93 = .ok (.iload 5, 2) := by decide +kernel
theorem dX7_hears_95 : decode cX7_hears 95 = .ok (.ifCond .eq 7, 3) := by decide +kernel
theorem dX7_hears_98 : decode cX7_hears 98 = .ok (.iconst 1, 1) := by decide +kernel
theorem dX7_hears_99 : decode cX7_hears 99 = .ok (.goto 4, 3) := by decide +kernel
theorem dX7_hears_102 : decode cX7_hears 102 = .ok (.iconst 0, 1) := by decide +kernel
theorem dX7_hears_103 : decode cX7_hears 103 = .ok (.iadd, 1) := by decide +kernel
theorem dX7_hears_104 : decode cX7_hears 104 = .ok (.iastore, 1) := by decide +kernel
theorem dX7_hears_105 : decode cX7_hears 105 = .ok (.return_, 1) := by decide +kernel
theorem dX7_talks_0 : decode cX7_talks 0 = .ok (.aload_n 0, 1) := by decide +kernel
theorem dX7_talks_1 : decode cX7_talks 1 = .ok (.getfield 9, 3) := by decide +kernel
theorem dX7_talks_4 : decode cX7_talks 4 = .ok (.iconst 2, 1) := by decide +kernel
theorem dX7_talks_5 : decode cX7_talks 5 = .ok (.iaload, 1) := by decide +kernel
theorem dX7_talks_6 : decode cX7_talks 6 = .ok (.iload_n 1, 1) := by decide +kernel
theorem dX7_talks_7 : decode cX7_talks 7 = .ok (.iadd, 1) := by decide +kernel
theorem dX7_talks_8 : decode cX7_talks 8 = .ok (.bipush 6, 2) := by decide +kernel
theorem dX7_talks_10 : decode cX7_talks 10 = .ok (.irem, 1) := by decide +kernel
theorem dX7_talks_11 : decode cX7_talks 11 = .ok (.istore_n 2, 1) := by decide +kernel
theorem dX7_talks_12 : decode cX7_talks 12 = .ok (.aload_n 0, 1) := by decide +kernel
theorem dX7_talks_13 : decode cX7_talks 13 = .ok (.iload_n 1, 1) := by decide +kernel
theorem dX7_talks_14 : decode cX7_talks 14 = .ok (.iload_n 2, 1) := by decide +kernel
theorem dX7_talks_15 : decode cX7_talks 15 = .ok (.invokevirtual 148, 3) := by decide +kernel
theorem dX7_talks_18 : decode cX7_talks 18 = .ok (.istore_n 3, 1) := by decide +kernel
theorem dX7_talks_19 : decode cX7_talks 19 = .ok (.iconst 0, 1) := by decide +kernel
theorem dX7_talks_20 : decode cX7_talks 20 = .ok (.istore 4, 2) := by decide +kernel
theorem dX7_talks_22 : decode cX7_talks 22 = .ok (.iload 4, 2) := by decide +kernel
theorem dX7_talks_24 : decode cX7_talks 24 = .ok (.aload_n 0, 1) := by decide +kernel
theorem dX7_talks_25 : decode cX7_talks 25 = .ok (.getfield 9, 3) := by decide +kernel
theorem dX7_talks_28 : decode cX7_talks 28 = .ok (.iconst 1, 1) := by decide +kernel
theorem dX7_talks_29 : decode cX7_talks 29 = .ok (.iaload, 1) := by decide +kernel
theorem dX7_talks_30 : decode cX7_talks 30 = .ok (.if_icmp .ge 31, 3) := by decide +kernel
theorem dX7_talks_33 : decode cX7_talks 33 = .ok (.iload_n 3, 1) := by decide +kernel
theorem dX7_talks_34 : decode cX7_talks 34 = .ok (.ifCond .eq 27, 3) := by decide +kernel
theorem dX7_talks_37 : decode cX7_talks 37 = .ok (.aload_n 0, 1) := by decide +kernel
theorem dX7_talks_38 : decode cX7_talks 38 = .ok (.iload 4, 2) := by decide +kernel
theorem dX7_talks_40 : decode cX7_talks 40 = .ok (.iload_n 1, 1) := by decide +kernel
theorem dX7_talks_41 : decode cX7_talks 41 = .ok (.invokevirtual 124, 3) := by decide +kernel
theorem dX7_talks_44 : decode cX7_talks 44 = .ok (.ifCond .eq 11, 3) := by decide +kernel
theorem dX7_talks_47 : decode cX7_talks 47 = .ok (.aload_n 0, 1) := by decide +kernel
theorem dX7_talks_48 : decode cX7_talks 48 = .ok (.iload 4, 2) := by decide +kernel
theorem dX7_talks_50 : decode cX7_talks 50 = .ok (.iload_n 2, 1) := by decide +kernel
theorem dX7_talks_51 : decode cX7_talks 51 = .ok (.iload_n 3, 1) := by decide +kernel
theorem dX7_talks_52 : decode cX7_talks 52 = .ok (.invokevirtual 159, 3) := by decide +kernel
theorem dX7_talks_55 : decode cX7_talks 55 = .ok (.iinc 4 1, 3) := by decide +kernel
theorem dX7_talks_58 : decode cX7_talks 58 = .ok (.goto (-36), 3) := by decide +kernel
theorem dX7_talks_61 : decode cX7_talks 61 = .ok (.return_, 1) := by decide +kernel
theorem dX7_passesBy_0 : decode cX7_passesBy 0 = .ok (.aload_n 0, 1) := by decide +kernel
theorem dX7_passesBy_1 : decode cX7_passesBy 1 = .ok (.invokevirtual 155, 3) := by decide +kernel
theorem dX7_passesBy_4 : decode cX7_passesBy 4 = .ok (.bipush 8, 2) := by decide +kernel
theorem dX7_passesBy_6 : decode cX7_passesBy 6 = .ok (.irem, 1) := by decide +kernel
theorem dX7_passesBy_7 : decode cX7_passesBy 7 = .ok (.istore_n 1, 1) := by decide +kernel
theorem dX7_passesBy_8 : decode cX7_passesBy 8 = .ok (.aload_n 0, 1) := by decide +kernel
theorem dX7_passesBy_9 : decode cX7_passesBy 9 = .ok (.invokevirtual 155, 3) := by decide +kernel
