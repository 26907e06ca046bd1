theorem d_Model_begin_11 : decode b_Model_begin 11 = .ok (.aload_n 0, 1) := by decide +kernel
theorem d_Model_begin_12 : decode b_Model_begin 12 = .ok (.aload_n 0, 1) := by decide +kernel
theorem d_Model_begin_13 : decode b_Model_begin 13 = .ok (.getfield 51, 3) := by decide +kernel
theorem d_Model_begin_16 : decode b_Model_begin 16 = .ok (.putfield 41, 3) := by decide +kernel
theorem d_Model_begin_19 : decode b_Model_begin 19 = .ok (.aload_n 0, 1) := by decide +kernel
theorem d_Model_begin_20 : decode b_Model_begin 20 = .ok (.getfield 34, 3) := by decide +kernel
theorem d_Model_begin_23 : decode b_Model_begin 23 = .ok (.aload_n 0, 1) := by decide +kernel
theorem d_Model_begin_24 : decode b_Model_begin 24 = .ok (.getfield 41, 3) := by decide +kernel
theorem d_Model_begin_27 : decode b_Model_begin 27 = .ok (.iload_n 1, 1) := by decide +kernel
theorem d_Model_begin_28 : decode b_Model_begin 28 = .ok (.bastore, 1) := by decide +kernel
theorem d_Model_begin_29 : decode b_Model_begin 29 = .ok (.aload_n 0, 1) := by decide +kernel
theorem d_Model_begin_30 : decode b_Model_begin 30 = .ok (.dup, 1) := by decide +kernel
theorem d_Model_begin_31 : decode b_Model_begin 31 = .ok (.getfield 51, 3) := by decide +kernel
theorem d_Model_begin_34 : decode b_Model_begin 34 = .ok (.iconst 1, 1) := by decide +kernel
theorem d_Model_begin_35 : decode b_Model_begin 35 = .ok (.iadd, 1) := by decide +kernel
theorem d_Model_begin_36 : decode b_Model_begin 36 = .ok (.putfield 51, 3) := by decide +kernel
theorem d_Model_begin_39 : decode b_Model_begin 39 = .ok (.aload_n 0, 1) := by decide +kernel
theorem d_Model_begin_40 : decode b_Model_begin 40 = .ok (.getfield 41, 3) := by decide +kernel
theorem d_Model_begin_43 : decode b_Model_begin 43 = .ok (.ireturn, 1) := by decide +kernel
theorem d_Model_enter_0 : decode b_Model_enter 0 = .ok (.iload_n 1, 1) := by decide +kernel
theorem d_Model_enter_1 : decode b_Model_enter 1 = .ok (.aload_n 0, 1) := by decide +kernel
theorem d_Model_enter_2 : decode b_Model_enter 2 = .ok (.getfield 51, 3) := by decide +kernel
theorem d_Model_enter_5 : decode b_Model_enter 5 = .ok (.invokestatic 54, 3) := by decide +kernel
theorem d_Model_enter_8 : decode b_Model_enter 8 = .ok (.ifCond .ne 5, 3) := by decide +kernel
theorem d_Model_enter_11 : decode b_Model_enter 11 = .ok (.iconst (-1), 1) := by decide +kernel
theorem d_Model_enter_12 : decode b_Model_enter 12 = .ok (.ireturn, 1) := by decide +kernel
theorem d_Model_enter_13 : decode b_Model_enter 13 = .ok (.aload_n 0, 1) := by decide +kernel
theorem d_Model_enter_14 : decode b_Model_enter 14 = .ok (.iload_n 1, 1) := by decide +kernel
theorem d_Model_enter_15 : decode b_Model_enter 15 = .ok (.putfield 41, 3) := by decide +kernel
theorem d_Model_enter_18 : decode b_Model_enter 18 = .ok (.iconst 0, 1) := by decide +kernel
theorem d_Model_enter_19 : decode b_Model_enter 19 = .ok (.ireturn, 1) := by decide +kernel
theorem d_Model_asserting_0 : decode b_Model_asserting 0 = .ok (.aload_n 0, 1) := by decide +kernel
theorem d_Model_asserting_1 : decode b_Model_asserting 1 = .ok (.getfield 41, 3) := by decide +kernel
theorem d_Model_asserting_4 : decode b_Model_asserting 4 = .ok (.ifCond .ge 6, 3) := by decide +kernel
theorem d_Model_asserting_7 : decode b_Model_asserting 7 = .ok (.bipush (-2), 2) := by decide +kernel
theorem d_Model_asserting_9 : decode b_Model_asserting 9 = .ok (.ireturn, 1) := by decide +kernel
theorem d_Model_asserting_10 : decode b_Model_asserting 10 = .ok (.aload_n 0, 1) := by decide +kernel
theorem d_Model_asserting_11 : decode b_Model_asserting 11 = .ok (.getfield 34, 3) := by decide +kernel
theorem d_Model_asserting_14 : decode b_Model_asserting 14 = .ok (.aload_n 0, 1) := by decide +kernel
theorem d_Model_asserting_15 : decode b_Model_asserting 15 = .ok (.getfield 41, 3) := by decide +kernel
theorem d_Model_asserting_18 : decode b_Model_asserting 18 = .ok (.iload_n 1, 1) := by decide +kernel
theorem d_Model_asserting_19 : decode b_Model_asserting 19 = .ok (.bastore, 1) := by decide +kernel
theorem d_Model_asserting_20 : decode b_Model_asserting 20 = .ok (.iconst 0, 1) := by decide +kernel
theorem d_Model_asserting_21 : decode b_Model_asserting 21 = .ok (.ireturn, 1) := by decide +kernel
theorem d_Model_find_0 : decode b_Model_find 0 = .ok (.iload_n 1, 1) := by decide +kernel
theorem d_Model_find_1 : decode b_Model_find 1 = .ok (.bipush 17, 2) := by decide +kernel
theorem d_Model_find_3 : decode b_Model_find 3 = .ok (.invokestatic 54, 3) := by decide +kernel
theorem d_Model_find_6 : decode b_Model_find 6 = .ok (.ifCond .ne 5, 3) := by decide +kernel
theorem d_Model_find_9 : decode b_Model_find 9 = .ok (.iconst (-1), 1) := by decide +kernel
theorem d_Model_find_10 : decode b_Model_find 10 = .ok (.ireturn, 1) := by decide +kernel
theorem d_Model_find_11 : decode b_Model_find 11 = .ok (.aload_n 0, 1) := by decide +kernel
theorem d_Model_find_12 : decode b_Model_find 12 = .ok (.getfield 41, 3) := by decide +kernel
theorem d_Model_find_15 : decode b_Model_find 15 = .ok (.ifCond .ge 6, 3) := by decide +kernel
theorem d_Model_find_18 : decode b_Model_find 18 = .ok (.bipush (-2), 2) := by decide +kernel
theorem d_Model_find_20 : decode b_Model_find 20 = .ok (.ireturn, 1) := by decide +kernel
theorem d_Model_find_21 : decode b_Model_find 21 = .ok (.iload_n 2, 1) := by decide +kernel
theorem d_Model_find_22 : decode b_Model_find 22 = .ok (.ifCond .eq 11, 3) := by decide +kernel
theorem d_Model_find_25 : decode b_Model_find 25 = .ok (.aload_n 0, 1) := by decide +kernel
theorem d_Model_find_26 : decode b_Model_find 26 = .ok (.iload_n 1, 1) := by decide +kernel
theorem d_Model_find_27 : decode b_Model_find 27 = .ok (.invokevirtual 108, 3) := by decide +kernel
theorem d_Model_find_30 : decode b_Model_find 30 = .ok (.goto 4, 3) := by decide +kernel
theorem d_Model_find_33 : decode b_Model_find 33 = .ok (.iconst 0, 1) := by decide +kernel
theorem d_Model_find_34 : decode b_Model_find 34 = .ok (.ireturn, 1) := by decide +kernel
theorem d_Model_keep_0 : decode b_Model_keep 0 = .ok (.iload_n 1, 1) := by decide +kernel
theorem d_Model_keep_1 : decode b_Model_keep 1 = .ok (.bipush 6, 2) := by decide +kernel
theorem d_Model_keep_3 : decode b_Model_keep 3 = .ok (.invokestatic 54, 3) := by decide +kernel
theorem d_Model_keep_6 : decode b_Model_keep 6 = .ok (.ifCond .eq 12, 3) := by decide +kernel
theorem d_Model_keep_9 : decode b_Model_keep 9 = .ok (.iload_n 2, 1) := by decide +kernel
theorem d_Model_keep_10 : decode b_Model_keep 10 = .ok (.bipush 6, 2) := by decide +kernel
theorem d_Model_keep_12 : decode b_Model_keep 12 = .ok (.invokestatic 54, 3) := by decide +kernel
theorem d_Model_keep_15 : decode b_Model_keep 15 = .ok (.ifCond .ne 5, 3) := by decide +kernel
theorem d_Model_keep_18 : decode b_Model_keep 18 = .ok (.iconst (-1), 1) := by decide +kernel
theorem d_Model_keep_19 : decode b_Model_keep 19 = .ok (.ireturn, 1) := by decide +kernel
theorem d_Model_keep_20 : decode b_Model_keep 20 = .ok (.aload_n 0, 1) := by decide +kernel
theorem d_Model_keep_21 : decode b_Model_keep 21 = .ok (.getfield 41, 3) := by decide +kernel
theorem d_Model_keep_24 : decode b_Model_keep 24 = .ok (.ifCond .ge 6, 3) := by decide +kernel
theorem d_Model_keep_27 : decode b_Model_keep 27 = .ok (.bipush (-2), 2) := by decide +kernel
theorem d_Model_keep_29 : decode b_Model_keep 29 = .ok (.ireturn, 1) := by decide +kernel
theorem d_Model_keep_30 : decode b_Model_keep 30 = .ok (.iload_n 2, 1) := by decide +kernel
theorem d_Model_keep_31 : decode b_Model_keep 31 = .ok (.iconst 3, 1) := by decide +kernel
theorem d_Model_keep_32 : decode b_Model_keep 32 = .ok (.if_icmp .ge 7, 3) := by decide +kernel
theorem d_Model_keep_35 : decode b_Model_keep 35 = .ok (.iload_n 2, 1) := by decide +kernel
theorem d_Model_keep_36 : decode b_Model_keep 36 = .ok (.goto 16, 3) := by decide +kernel
theorem d_Model_keep_39 : decode b_Model_keep 39 = .ok (.iload_n 2, 1) := by decide +kernel
theorem d_Model_keep_40 : decode b_Model_keep 40 = .ok (.iconst 5, 1) := by decide +kernel
theorem d_Model_keep_41 : decode b_Model_keep 41 = .ok (.if_icmp .ne 8, 3) := by decide +kernel
theorem d_Model_keep_44 : decode b_Model_keep 44 = .ok (.bipush 14, 2) := by decide +kernel
theorem d_Model_keep_46 : decode b_Model_keep 46 = .ok (.goto 6, 3) := by decide +kernel
theorem d_Model_keep_49 : decode b_Model_keep 49 = .ok (.iload_n 2, 1) := by decide +kernel
theorem d_Model_keep_50 : decode b_Model_keep 50 = .ok (.iconst 3, 1) := by decide +kernel
theorem d_Model_keep_51 : decode b_Model_keep 51 = .ok (.iadd, 1) := by decide +kernel
theorem d_Model_keep_52 : decode b_Model_keep 52 = .ok (.istore_n 3, 1) := by decide +kernel
theorem d_Model_keep_53 : decode b_Model_keep 53 = .ok (.iload_n 2, 1) := by decide +kernel
theorem d_Model_keep_54 : decode b_Model_keep 54 = .ok (.iconst 3, 1) := by decide +kernel
theorem d_Model_keep_55 : decode b_Model_keep 55 = .ok (.if_icmp .ge 11, 3) := by decide +kernel
theorem d_Model_keep_58 : decode b_Model_keep 58 = .ok (.aload_n 0, 1) := by decide +kernel
theorem d_Model_keep_59 : decode b_Model_keep 59 = .ok (.iload_n 3, 1) := by decide +kernel
theorem d_Model_keep_60 : decode b_Model_keep 60 = .ok (.invokevirtual 115, 3) := by decide +kernel
theorem d_Model_keep_63 : decode b_Model_keep 63 = .ok (.goto 35, 3) := by decide +kernel
theorem d_Model_keep_66 : decode b_Model_keep 66 = .ok (.iload_n 2, 1) := by decide +kernel
theorem d_Model_keep_67 : decode b_Model_keep 67 = .ok (.iconst 5, 1) := by decide +kernel
theorem d_Model_keep_68 : decode b_Model_keep 68 = .ok (.if_icmp .ne 10, 3) := by decide +kernel
theorem d_Model_keep_71 : decode b_Model_keep 71 = .ok (.aload_n 0, 1) := by decide +kernel
theorem d_Model_keep_72 : decode b_Model_keep 72 = .ok (.invokevirtual 99, 3) := by decide +kernel
theorem d_Model_keep_75 : decode b_Model_keep 75 = .ok (.goto 23, 3) := by decide +kernel
theorem d_Model_keep_78 : decode b_Model_keep 78 = .ok (.iload_n 2, 1) := by decide +kernel
theorem d_Model_keep_79 : decode b_Model_keep 79 = .ok (.iconst 4, 1) := by decide +kernel
theorem d_Model_keep_80 : decode b_Model_keep 80 = .ok (.if_icmp .ne 10, 3) := by decide +kernel
theorem d_Model_keep_83 : decode b_Model_keep 83 = .ok (.aload_n 0, 1) := by decide +kernel
theorem d_Model_keep_84 : decode b_Model_keep 84 = .ok (.invokevirtual 86, 3) := by decide +kernel
theorem d_Model_keep_87 : decode b_Model_keep 87 = .ok (.goto 11, 3) := by decide +kernel
theorem d_Model_keep_90 : decode b_Model_keep 90 = .ok (.aload_n 0, 1) := by decide +kernel
theorem d_Model_keep_91 : decode b_Model_keep 91 = .ok (.bipush 6, 2) := by decide +kernel
theorem d_Model_keep_93 : decode b_Model_keep 93 = .ok (.bipush 11, 2) := by decide +kernel
theorem d_Model_keep_95 : decode b_Model_keep 95 = .ok (.invokevirtual 72, 3) := by decide +kernel
theorem d_Model_keep_98 : decode b_Model_keep 98 = .ok (.aload_n 0, 1) := by decide +kernel
theorem d_Model_keep_99 : decode b_Model_keep 99 = .ok (.getfield 45, 3) := by decide +kernel
theorem d_Model_keep_102 : decode b_Model_keep 102 = .ok (.iload_n 1, 1) := by decide +kernel
theorem d_Model_keep_103 : decode b_Model_keep 103 = .ok (.iload_n 3, 1) := by decide +kernel
theorem d_Model_keep_104 : decode b_Model_keep 104 = .ok (.iastore, 1) := by decide +kernel
theorem d_Model_keep_105 : decode b_Model_keep 105 = .ok (.aload_n 0, 1) := by decide +kernel
theorem d_Model_keep_106 : decode b_Model_keep 106 = .ok (.getfield 48, 3) := by decide +kernel
theorem d_Model_keep_109 : decode b_Model_keep 109 = .ok (.iload_n 1, 1) := by decide +kernel
theorem d_Model_keep_110 : decode b_Model_keep 110 = .ok (.aload_n 0, 1) := by decide +kernel
theorem d_Model_keep_111 : decode b_Model_keep 111 = .ok (.getfield 41, 3) := by decide +kernel
theorem d_Model_keep_114 : decode b_Model_keep 114 = .ok (.iastore, 1) := by decide +kernel
theorem d_Model_keep_115 : decode b_Model_keep 115 = .ok (.iconst 0, 1) := by decide +kernel
theorem d_Model_keep_116 : decode b_Model_keep 116 = .ok (.ireturn, 1) := by decide +kernel
theorem d_Model_isOf_0 : decode b_Model_isOf 0 = .ok (.iload_n 1, 1) := by decide +kernel
theorem d_Model_isOf_1 : decode b_Model_isOf 1 = .ok (.bipush 6, 2) := by decide +kernel
theorem d_Model_isOf_3 : decode b_Model_isOf 3 = .ok (.invokestatic 54, 3) := by decide +kernel
theorem d_Model_isOf_6 : decode b_Model_isOf 6 = .ok (.ifCond .eq 34, 3) := by decide +kernel
theorem d_Model_isOf_9 : decode b_Model_isOf 9 = .ok (.iload_n 2, 1) := by decide +kernel
theorem d_Model_isOf_10 : decode b_Model_isOf 10 = .ok (.bipush 17, 2) := by decide +kernel
theorem d_Model_isOf_12 : decode b_Model_isOf 12 = .ok (.invokestatic 54, 3) := by decide +kernel
theorem d_Model_isOf_15 : decode b_Model_isOf 15 = .ok (.ifCond .eq 25, 3) := by decide +kernel
theorem d_Model_isOf_18 : decode b_Model_isOf 18 = .ok (.aload_n 0, 1) := by decide +kernel
theorem d_Model_isOf_19 : decode b_Model_isOf 19 = .ok (.getfield 45, 3) := by decide +kernel
theorem d_Model_isOf_22 : decode b_Model_isOf 22 = .ok (.iload_n 1, 1) := by decide +kernel
theorem d_Model_isOf_23 : decode b_Model_isOf 23 = .ok (.iaload, 1) := by decide +kernel
theorem d_Model_isOf_24 : decode b_Model_isOf 24 = .ok (.ifCond .lt 16, 3) := by decide +kernel
theorem d_Model_isOf_27 : decode b_Model_isOf 27 = .ok (.aload_n 0, 1) := by decide +kernel
theorem d_Model_isOf_28 : decode b_Model_isOf 28 = .ok (.getfield 48, 3) := by decide +kernel
theorem d_Model_isOf_31 : decode b_Model_isOf 31 = .ok (.iload_n 1, 1) := by decide +kernel
theorem d_Model_isOf_32 : decode b_Model_isOf 32 = .ok (.iaload, 1) := by decide +kernel
theorem d_Model_isOf_33 : decode b_Model_isOf 33 = .ok (.aload_n 0, 1) := by decide +kernel
theorem d_Model_isOf_34 : decode b_Model_isOf 34 = .ok (.getfield 41, 3) := by decide +kernel
theorem d_Model_isOf_37 : decode b_Model_isOf 37 = .ok (.if_icmp .eq 5, 3) := by decide +kernel
theorem d_Model_isOf_40 : decode b_Model_isOf 40 = .ok (.iconst 0, 1) := by decide +kernel
theorem d_Model_isOf_41 : decode b_Model_isOf 41 = .ok (.ireturn, 1) := by decide +kernel
theorem d_Model_isOf_42 : decode b_Model_isOf 42 = .ok (.aload_n 0, 1) := by decide +kernel
theorem d_Model_isOf_43 : decode b_Model_isOf 43 = .ok (.getfield 45, 3) := by decide +kernel
theorem d_Model_isOf_46 : decode b_Model_isOf 46 = .ok (.iload_n 1, 1) := by decide +kernel
theorem d_Model_isOf_47 : decode b_Model_isOf 47 = .ok (.iaload, 1) := by decide +kernel
theorem d_Model_isOf_48 : decode b_Model_isOf 48 = .ok (.istore_n 3, 1) := by decide +kernel
theorem d_Model_isOf_49 : decode b_Model_isOf 49 = .ok (.iload_n 3, 1) := by decide +kernel
theorem d_Model_isOf_50 : decode b_Model_isOf 50 = .ok (.iload_n 2, 1) := by decide +kernel
theorem d_Model_isOf_51 : decode b_Model_isOf 51 = .ok (.if_icmp .ne 5, 3) := by decide +kernel
theorem d_Model_isOf_54 : decode b_Model_isOf 54 = .ok (.iconst 1, 1) := by decide +kernel
theorem d_Model_isOf_55 : decode b_Model_isOf 55 = .ok (.ireturn, 1) := by decide +kernel
theorem d_Model_isOf_56 : decode b_Model_isOf 56 = .ok (.iload_n 3, 1) := by decide +kernel
theorem d_Model_isOf_57 : decode b_Model_isOf 57 = .ok (.iconst 1, 1) := by decide +kernel
theorem d_Model_isOf_58 : decode b_Model_isOf 58 = .ok (.if_icmp .eq 8, 3) := by decide +kernel
theorem d_Model_isOf_61 : decode b_Model_isOf 61 = .ok (.iload_n 3, 1) := by decide +kernel
theorem d_Model_isOf_62 : decode b_Model_isOf 62 = .ok (.iconst 2, 1) := by decide +kernel
theorem d_Model_isOf_63 : decode b_Model_isOf 63 = .ok (.if_icmp .ne 28, 3) := by decide +kernel
theorem d_Model_isOf_66 : decode b_Model_isOf 66 = .ok (.iload_n 2, 1) := by decide +kernel
theorem d_Model_isOf_67 : decode b_Model_isOf 67 = .ok (.ifCond .eq 18, 3) := by decide +kernel
theorem d_Model_isOf_70 : decode b_Model_isOf 70 = .ok (.iload_n 2, 1) := by decide +kernel
theorem d_Model_isOf_71 : decode b_Model_isOf 71 = .ok (.iconst 1, 1) := by decide +kernel
theorem d_Model_isOf_72 : decode b_Model_isOf 72 = .ok (.if_icmp .eq 13, 3) := by decide +kernel
theorem d_Model_isOf_75 : decode b_Model_isOf 75 = .ok (.iload_n 2, 1) := by decide +kernel
theorem d_Model_isOf_76 : decode b_Model_isOf 76 = .ok (.iconst 3, 1) := by decide +kernel
theorem d_Model_isOf_77 : decode b_Model_isOf 77 = .ok (.if_icmp .eq 8, 3) := by decide +kernel
theorem d_Model_isOf_80 : decode b_Model_isOf 80 = .ok (.iload_n 2, 1) := by decide +kernel
theorem d_Model_isOf_81 : decode b_Model_isOf 81 = .ok (.iconst 5, 1) := by decide +kernel
theorem d_Model_isOf_82 : decode b_Model_isOf 82 = .ok (.if_icmp .ne 7, 3) := by decide +kernel
theorem d_Model_isOf_85 : decode b_Model_isOf 85 = .ok (.iconst 1, 1) := by decide +kernel
theorem d_Model_isOf_86 : decode b_Model_isOf 86 = .ok (.goto 4, 3) := by decide +kernel
theorem d_Model_isOf_89 : decode b_Model_isOf 89 = .ok (.iconst 0, 1) := by decide +kernel
theorem d_Model_isOf_90 : decode b_Model_isOf 90 = .ok (.ireturn, 1) := by decide +kernel
theorem d_Model_isOf_91 : decode b_Model_isOf 91 = .ok (.iload_n 3, 1) := by decide +kernel
theorem d_Model_isOf_92 : decode b_Model_isOf 92 = .ok (.bipush 6, 2) := by decide +kernel
theorem d_Model_isOf_94 : decode b_Model_isOf 94 = .ok (.if_icmp .ne 8, 3) := by decide +kernel
theorem d_Model_isOf_97 : decode b_Model_isOf 97 = .ok (.iload_n 2, 1) := by decide +kernel
theorem d_Model_isOf_98 : decode b_Model_isOf 98 = .ok (.iconst 3, 1) := by decide +kernel
theorem d_Model_isOf_99 : decode b_Model_isOf 99 = .ok (.if_icmp .eq 19, 3) := by decide +kernel
theorem d_Model_isOf_102 : decode b_Model_isOf 102 = .ok (.iload_n 3, 1) := by decide +kernel
theorem d_Model_isOf_103 : decode b_Model_isOf 103 = .ok (.bipush 7, 2) := by decide +kernel
theorem d_Model_isOf_105 : decode b_Model_isOf 105 = .ok (.if_icmp .ne 17, 3) := by decide +kernel
theorem d_Model_isOf_108 : decode b_Model_isOf 108 = .ok (.iload_n 2, 1) := by decide +kernel
theorem d_Model_isOf_109 : decode b_Model_isOf 109 = .ok (.iconst 3, 1) := by decide +kernel
theorem d_Model_isOf_110 : decode b_Model_isOf 110 = .ok (.if_icmp .eq 8, 3) := by decide +kernel
theorem d_Model_isOf_113 : decode b_Model_isOf 113 = .ok (.iload_n 2, 1) := by decide +kernel
theorem d_Model_isOf_114 : decode b_Model_isOf 114 = .ok (.iconst 4, 1) := by decide +kernel
theorem d_Model_isOf_115 : decode b_Model_isOf 115 = .ok (.if_icmp .ne 7, 3) := by decide +kernel
theorem d_Model_isOf_118 : decode b_Model_isOf 118 = .ok (.iconst 1, 1) := by decide +kernel
theorem d_Model_isOf_119 : decode b_Model_isOf 119 = .ok (.goto 4, 3) := by decide +kernel
theorem d_Model_isOf_122 : decode b_Model_isOf 122 = .ok (.iconst 0, 1) := by decide +kernel
theorem d_Model_isOf_123 : decode b_Model_isOf 123 = .ok (.ireturn, 1) := by decide +kernel
theorem d_Model_alike_0 : decode b_Model_alike 0 = .ok (.iload_n 1, 1) := by decide +kernel
theorem d_Model_alike_1 : decode b_Model_alike 1 = .ok (.bipush 6, 2) := by decide +kernel
theorem d_Model_alike_3 : decode b_Model_alike 3 = .ok (.invokestatic 54, 3) := by decide +kernel
theorem d_Model_alike_6 : decode b_Model_alike 6 = .ok (.ifCond .eq 55, 3) := by decide +kernel
theorem d_Model_alike_9 : decode b_Model_alike 9 = .ok (.iload_n 2, 1) := by decide +kernel
theorem d_Model_alike_10 : decode b_Model_alike 10 = .ok (.bipush 6, 2) := by decide +kernel
theorem d_Model_alike_12 : decode b_Model_alike 12 = .ok (.invokestatic 54, 3) := by decide +kernel
theorem d_Model_alike_15 : decode b_Model_alike 15 = .ok (.ifCond .eq 46, 3) := by decide +kernel
theorem d_Model_alike_18 : decode b_Model_alike 18 = .ok (.aload_n 0, 1) := by decide +kernel
theorem d_Model_alike_19 : decode b_Model_alike 19 = .ok (.getfield 45, 3) := by decide +kernel
theorem d_Model_alike_22 : decode b_Model_alike 22 = .ok (.iload_n 1, 1) := by decide +kernel
theorem d_Model_alike_23 : decode b_Model_alike 23 = .ok (.iaload, 1) := by decide +kernel
theorem d_Model_alike_24 : decode b_Model_alike 24 = .ok (.ifCond .lt 37, 3) := by decide +kernel
theorem d_Model_alike_27 : decode b_Model_alike 27 = .ok (.aload_n 0, 1) := by decide +kernel
theorem d_Model_alike_28 : decode b_Model_alike 28 = .ok (.getfield 45, 3) := by decide +kernel
theorem d_Model_alike_31 : decode b_Model_alike 31 = .ok (.iload_n 1, 1) := by decide +kernel
theorem d_Model_alike_32 : decode b_Model_alike 32 = .ok (.iaload, 1) := by decide +kernel
theorem d_Model_alike_33 : decode b_Model_alike 33 = .ok (.aload_n 0, 1) := by decide +kernel
theorem d_Model_alike_34 : decode b_Model_alike 34 = .ok (.getfield 45, 3) := by decide +kernel
theorem d_Model_alike_37 : decode b_Model_alike 37 = .ok (.iload_n 2, 1) := by decide +kernel
theorem d_Model_alike_38 : decode b_Model_alike 38 = .ok (.iaload, 1) := by decide +kernel
theorem d_Model_alike_39 : decode b_Model_alike 39 = .ok (.if_icmp .ne 22, 3) := by decide +kernel
theorem d_Model_alike_42 : decode b_Model_alike 42 = .ok (.aload_n 0, 1) := by decide +kernel
theorem d_Model_alike_43 : decode b_Model_alike 43 = .ok (.getfield 48, 3) := by decide +kernel
theorem d_Model_alike_46 : decode b_Model_alike 46 = .ok (.iload_n 1, 1) := by decide +kernel
theorem d_Model_alike_47 : decode b_Model_alike 47 = .ok (.iaload, 1) := by decide +kernel
theorem d_Model_alike_48 : decode b_Model_alike 48 = .ok (.aload_n 0, 1) := by decide +kernel
theorem d_Model_alike_49 : decode b_Model_alike 49 = .ok (.getfield 48, 3) := by decide +kernel
theorem d_Model_alike_52 : decode b_Model_alike 52 = .ok (.iload_n 2, 1) := by decide +kernel
theorem d_Model_alike_53 : decode b_Model_alike 53 = .ok (.iaload, 1) := by decide +kernel
theorem d_Model_alike_54 : decode b_Model_alike 54 = .ok (.if_icmp .ne 7, 3) := by decide +kernel
theorem d_Model_alike_57 : decode b_Model_alike 57 = .ok (.iconst 1, 1) := by decide +kernel
theorem d_Model_alike_58 : decode b_Model_alike 58 = .ok (.goto 4, 3) := by decide +kernel
theorem d_Model_alike_61 : decode b_Model_alike 61 = .ok (.iconst 0, 1) := by decide +kernel
theorem d_Model_alike_62 : decode b_Model_alike 62 = .ok (.ireturn, 1) := by decide +kernel
theorem d_Model_note_0 : decode b_Model_note 0 = .ok (.aload_n 0, 1) := by decide +kernel
theorem d_Model_note_1 : decode b_Model_note 1 = .ok (.getfield 41, 3) := by decide +kernel
theorem d_Model_note_4 : decode b_Model_note 4 = .ok (.ifCond .ge 6, 3) := by decide +kernel
theorem d_Model_note_7 : decode b_Model_note 7 = .ok (.bipush (-2), 2) := by decide +kernel
theorem d_Model_note_9 : decode b_Model_note 9 = .ok (.ireturn, 1) := by decide +kernel
