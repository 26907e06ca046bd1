theorem d_Model_in_0 : decode b_Model_in 0 = .ok (.iload_n 0, 1) := by decide +kernel
theorem d_Model_in_1 : decode b_Model_in 1 = .ok (.ifCond .lt 12, 3) := by decide +kernel
theorem d_Model_in_4 : decode b_Model_in 4 = .ok (.iload_n 0, 1) := by decide +kernel
theorem d_Model_in_5 : decode b_Model_in 5 = .ok (.iload_n 1, 1) := by decide +kernel
theorem d_Model_in_6 : decode b_Model_in 6 = .ok (.if_icmp .ge 7, 3) := by decide +kernel
theorem d_Model_in_9 : decode b_Model_in 9 = .ok (.iconst 1, 1) := by decide +kernel
theorem d_Model_in_10 : decode b_Model_in 10 = .ok (.goto 4, 3) := by decide +kernel
theorem d_Model_in_13 : decode b_Model_in 13 = .ok (.iconst 0, 1) := by decide +kernel
theorem d_Model_in_14 : decode b_Model_in 14 = .ok (.ireturn, 1) := by decide +kernel
theorem d_Model_write_0 : decode b_Model_write 0 = .ok (.aload_n 0, 1) := by decide +kernel
theorem d_Model_write_1 : decode b_Model_write 1 = .ok (.getfield 31, 3) := by decide +kernel
theorem d_Model_write_4 : decode b_Model_write 4 = .ok (.aload_n 0, 1) := by decide +kernel
theorem d_Model_write_5 : decode b_Model_write 5 = .ok (.getfield 41, 3) := by decide +kernel
theorem d_Model_write_8 : decode b_Model_write 8 = .ok (.iaload, 1) := by decide +kernel
theorem d_Model_write_9 : decode b_Model_write 9 = .ok (.bipush 64, 2) := by decide +kernel
theorem d_Model_write_11 : decode b_Model_write 11 = .ok (.if_icmp .ge 26, 3) := by decide +kernel
theorem d_Model_write_14 : decode b_Model_write 14 = .ok (.aload_n 0, 1) := by decide +kernel
theorem d_Model_write_15 : decode b_Model_write 15 = .ok (.getfield 28, 3) := by decide +kernel
theorem d_Model_write_18 : decode b_Model_write 18 = .ok (.aload_n 0, 1) := by decide +kernel
theorem d_Model_write_19 : decode b_Model_write 19 = .ok (.getfield 41, 3) := by decide +kernel
theorem d_Model_write_22 : decode b_Model_write 22 = .ok (.bipush 64, 2) := by decide +kernel
theorem d_Model_write_24 : decode b_Model_write 24 = .ok (.imul, 1) := by decide +kernel
theorem d_Model_write_25 : decode b_Model_write 25 = .ok (.aload_n 0, 1) := by decide +kernel
theorem d_Model_write_26 : decode b_Model_write 26 = .ok (.getfield 31, 3) := by decide +kernel
theorem d_Model_write_29 : decode b_Model_write 29 = .ok (.aload_n 0, 1) := by decide +kernel
theorem d_Model_write_30 : decode b_Model_write 30 = .ok (.getfield 41, 3) := by decide +kernel
theorem d_Model_write_33 : decode b_Model_write 33 = .ok (.iaload, 1) := by decide +kernel
theorem d_Model_write_34 : decode b_Model_write 34 = .ok (.iadd, 1) := by decide +kernel
theorem d_Model_write_35 : decode b_Model_write 35 = .ok (.iload_n 1, 1) := by decide +kernel
theorem d_Model_write_36 : decode b_Model_write 36 = .ok (.iastore, 1) := by decide +kernel
theorem d_Model_write_37 : decode b_Model_write 37 = .ok (.aload_n 0, 1) := by decide +kernel
theorem d_Model_write_38 : decode b_Model_write 38 = .ok (.getfield 31, 3) := by decide +kernel
theorem d_Model_write_41 : decode b_Model_write 41 = .ok (.aload_n 0, 1) := by decide +kernel
theorem d_Model_write_42 : decode b_Model_write 42 = .ok (.getfield 41, 3) := by decide +kernel
theorem d_Model_write_45 : decode b_Model_write 45 = .ok (.dup2, 1) := by decide +kernel
theorem d_Model_write_46 : decode b_Model_write 46 = .ok (.iaload, 1) := by decide +kernel
theorem d_Model_write_47 : decode b_Model_write 47 = .ok (.iconst 1, 1) := by decide +kernel
theorem d_Model_write_48 : decode b_Model_write 48 = .ok (.iadd, 1) := by decide +kernel
theorem d_Model_write_49 : decode b_Model_write 49 = .ok (.iastore, 1) := by decide +kernel
theorem d_Model_write_50 : decode b_Model_write 50 = .ok (.return_, 1) := by decide +kernel
theorem d_Model_begins_0 : decode b_Model_begins 0 = .ok (.aload_n 0, 1) := by decide +kernel
theorem d_Model_begins_1 : decode b_Model_begins 1 = .ok (.getfield 7, 3) := by decide +kernel
theorem d_Model_begins_4 : decode b_Model_begins 4 = .ok (.aload_n 0, 1) := by decide +kernel
theorem d_Model_begins_5 : decode b_Model_begins 5 = .ok (.getfield 41, 3) := by decide +kernel
theorem d_Model_begins_8 : decode b_Model_begins 8 = .ok (.bipush 17, 2) := by decide +kernel
theorem d_Model_begins_10 : decode b_Model_begins 10 = .ok (.imul, 1) := by decide +kernel
theorem d_Model_begins_11 : decode b_Model_begins 11 = .ok (.iload_n 1, 1) := by decide +kernel
theorem d_Model_begins_12 : decode b_Model_begins 12 = .ok (.iadd, 1) := by decide +kernel
theorem d_Model_begins_13 : decode b_Model_begins 13 = .ok (.iaload, 1) := by decide +kernel
theorem d_Model_begins_14 : decode b_Model_begins 14 = .ok (.ifCond .eq 5, 3) := by decide +kernel
theorem d_Model_begins_17 : decode b_Model_begins 17 = .ok (.iconst 0, 1) := by decide +kernel
theorem d_Model_begins_18 : decode b_Model_begins 18 = .ok (.ireturn, 1) := by decide +kernel
theorem d_Model_begins_19 : decode b_Model_begins 19 = .ok (.aload_n 0, 1) := by decide +kernel
theorem d_Model_begins_20 : decode b_Model_begins 20 = .ok (.getfield 7, 3) := by decide +kernel
theorem d_Model_begins_23 : decode b_Model_begins 23 = .ok (.aload_n 0, 1) := by decide +kernel
theorem d_Model_begins_24 : decode b_Model_begins 24 = .ok (.getfield 41, 3) := by decide +kernel
theorem d_Model_begins_27 : decode b_Model_begins 27 = .ok (.bipush 17, 2) := by decide +kernel
theorem d_Model_begins_29 : decode b_Model_begins 29 = .ok (.imul, 1) := by decide +kernel
theorem d_Model_begins_30 : decode b_Model_begins 30 = .ok (.iload_n 1, 1) := by decide +kernel
theorem d_Model_begins_31 : decode b_Model_begins 31 = .ok (.iadd, 1) := by decide +kernel
theorem d_Model_begins_32 : decode b_Model_begins 32 = .ok (.iconst 1, 1) := by decide +kernel
theorem d_Model_begins_33 : decode b_Model_begins 33 = .ok (.iastore, 1) := by decide +kernel
theorem d_Model_begins_34 : decode b_Model_begins 34 = .ok (.iconst 1, 1) := by decide +kernel
theorem d_Model_begins_35 : decode b_Model_begins 35 = .ok (.ireturn, 1) := by decide +kernel
theorem d_Model_ends_0 : decode b_Model_ends 0 = .ok (.aload_n 0, 1) := by decide +kernel
theorem d_Model_ends_1 : decode b_Model_ends 1 = .ok (.getfield 7, 3) := by decide +kernel
theorem d_Model_ends_4 : decode b_Model_ends 4 = .ok (.aload_n 0, 1) := by decide +kernel
theorem d_Model_ends_5 : decode b_Model_ends 5 = .ok (.getfield 41, 3) := by decide +kernel
theorem d_Model_ends_8 : decode b_Model_ends 8 = .ok (.bipush 17, 2) := by decide +kernel
theorem d_Model_ends_10 : decode b_Model_ends 10 = .ok (.imul, 1) := by decide +kernel
theorem d_Model_ends_11 : decode b_Model_ends 11 = .ok (.iload_n 1, 1) := by decide +kernel
theorem d_Model_ends_12 : decode b_Model_ends 12 = .ok (.iadd, 1) := by decide +kernel
theorem d_Model_ends_13 : decode b_Model_ends 13 = .ok (.iconst 2, 1) := by decide +kernel
theorem d_Model_ends_14 : decode b_Model_ends 14 = .ok (.iastore, 1) := by decide +kernel
theorem d_Model_ends_15 : decode b_Model_ends 15 = .ok (.return_, 1) := by decide +kernel
theorem d_Model_initBase_0 : decode b_Model_initBase 0 = .ok (.aload_n 0, 1) := by decide +kernel
theorem d_Model_initBase_1 : decode b_Model_initBase 1 = .ok (.iconst 0, 1) := by decide +kernel
theorem d_Model_initBase_2 : decode b_Model_initBase 2 = .ok (.invokevirtual 58, 3) := by decide +kernel
theorem d_Model_initBase_5 : decode b_Model_initBase 5 = .ok (.ifCond .ne 4, 3) := by decide +kernel
theorem d_Model_initBase_8 : decode b_Model_initBase 8 = .ok (.return_, 1) := by decide +kernel
theorem d_Model_initBase_9 : decode b_Model_initBase 9 = .ok (.aload_n 0, 1) := by decide +kernel
theorem d_Model_initBase_10 : decode b_Model_initBase 10 = .ok (.bipush 10, 2) := by decide +kernel
theorem d_Model_initBase_12 : decode b_Model_initBase 12 = .ok (.invokevirtual 62, 3) := by decide +kernel
theorem d_Model_initBase_15 : decode b_Model_initBase 15 = .ok (.aload_n 0, 1) := by decide +kernel
theorem d_Model_initBase_16 : decode b_Model_initBase 16 = .ok (.getfield 13, 3) := by decide +kernel
theorem d_Model_initBase_19 : decode b_Model_initBase 19 = .ok (.aload_n 0, 1) := by decide +kernel
theorem d_Model_initBase_20 : decode b_Model_initBase 20 = .ok (.getfield 41, 3) := by decide +kernel
theorem d_Model_initBase_23 : decode b_Model_initBase 23 = .ok (.bipush 10, 2) := by decide +kernel
theorem d_Model_initBase_25 : decode b_Model_initBase 25 = .ok (.iastore, 1) := by decide +kernel
theorem d_Model_initBase_26 : decode b_Model_initBase 26 = .ok (.aload_n 0, 1) := by decide +kernel
theorem d_Model_initBase_27 : decode b_Model_initBase 27 = .ok (.iconst 1, 1) := by decide +kernel
theorem d_Model_initBase_28 : decode b_Model_initBase 28 = .ok (.invokevirtual 62, 3) := by decide +kernel
theorem d_Model_initBase_31 : decode b_Model_initBase 31 = .ok (.aload_n 0, 1) := by decide +kernel
theorem d_Model_initBase_32 : decode b_Model_initBase 32 = .ok (.iconst 0, 1) := by decide +kernel
theorem d_Model_initBase_33 : decode b_Model_initBase 33 = .ok (.invokevirtual 66, 3) := by decide +kernel
theorem d_Model_initBase_36 : decode b_Model_initBase 36 = .ok (.return_, 1) := by decide +kernel
theorem d_Model_initAlone_0 : decode b_Model_initAlone 0 = .ok (.aload_n 0, 1) := by decide +kernel
theorem d_Model_initAlone_1 : decode b_Model_initAlone 1 = .ok (.iload_n 1, 1) := by decide +kernel
theorem d_Model_initAlone_2 : decode b_Model_initAlone 2 = .ok (.invokevirtual 58, 3) := by decide +kernel
theorem d_Model_initAlone_5 : decode b_Model_initAlone 5 = .ok (.ifCond .ne 4, 3) := by decide +kernel
theorem d_Model_initAlone_8 : decode b_Model_initAlone 8 = .ok (.return_, 1) := by decide +kernel
theorem d_Model_initAlone_9 : decode b_Model_initAlone 9 = .ok (.aload_n 0, 1) := by decide +kernel
theorem d_Model_initAlone_10 : decode b_Model_initAlone 10 = .ok (.iload_n 2, 1) := by decide +kernel
theorem d_Model_initAlone_11 : decode b_Model_initAlone 11 = .ok (.invokevirtual 62, 3) := by decide +kernel
theorem d_Model_initAlone_14 : decode b_Model_initAlone 14 = .ok (.aload_n 0, 1) := by decide +kernel
theorem d_Model_initAlone_15 : decode b_Model_initAlone 15 = .ok (.iload_n 1, 1) := by decide +kernel
theorem d_Model_initAlone_16 : decode b_Model_initAlone 16 = .ok (.invokevirtual 66, 3) := by decide +kernel
theorem d_Model_initAlone_19 : decode b_Model_initAlone 19 = .ok (.return_, 1) := by decide +kernel
theorem d_Model_initMiddle_0 : decode b_Model_initMiddle 0 = .ok (.aload_n 0, 1) := by decide +kernel
theorem d_Model_initMiddle_1 : decode b_Model_initMiddle 1 = .ok (.iconst 1, 1) := by decide +kernel
theorem d_Model_initMiddle_2 : decode b_Model_initMiddle 2 = .ok (.invokevirtual 58, 3) := by decide +kernel
theorem d_Model_initMiddle_5 : decode b_Model_initMiddle 5 = .ok (.ifCond .ne 4, 3) := by decide +kernel
theorem d_Model_initMiddle_8 : decode b_Model_initMiddle 8 = .ok (.return_, 1) := by decide +kernel
theorem d_Model_initMiddle_9 : decode b_Model_initMiddle 9 = .ok (.aload_n 0, 1) := by decide +kernel
theorem d_Model_initMiddle_10 : decode b_Model_initMiddle 10 = .ok (.invokevirtual 69, 3) := by decide +kernel
theorem d_Model_initMiddle_13 : decode b_Model_initMiddle 13 = .ok (.aload_n 0, 1) := by decide +kernel
theorem d_Model_initMiddle_14 : decode b_Model_initMiddle 14 = .ok (.iconst 5, 1) := by decide +kernel
theorem d_Model_initMiddle_15 : decode b_Model_initMiddle 15 = .ok (.iconst 5, 1) := by decide +kernel
theorem d_Model_initMiddle_16 : decode b_Model_initMiddle 16 = .ok (.invokevirtual 72, 3) := by decide +kernel
theorem d_Model_initMiddle_19 : decode b_Model_initMiddle 19 = .ok (.aload_n 0, 1) := by decide +kernel
theorem d_Model_initMiddle_20 : decode b_Model_initMiddle 20 = .ok (.iconst 2, 1) := by decide +kernel
theorem d_Model_initMiddle_21 : decode b_Model_initMiddle 21 = .ok (.invokevirtual 62, 3) := by decide +kernel
theorem d_Model_initMiddle_24 : decode b_Model_initMiddle 24 = .ok (.aload_n 0, 1) := by decide +kernel
theorem d_Model_initMiddle_25 : decode b_Model_initMiddle 25 = .ok (.getfield 16, 3) := by decide +kernel
theorem d_Model_initMiddle_28 : decode b_Model_initMiddle 28 = .ok (.aload_n 0, 1) := by decide +kernel
theorem d_Model_initMiddle_29 : decode b_Model_initMiddle 29 = .ok (.getfield 41, 3) := by decide +kernel
theorem d_Model_initMiddle_32 : decode b_Model_initMiddle 32 = .ok (.iconst 2, 1) := by decide +kernel
theorem d_Model_initMiddle_33 : decode b_Model_initMiddle 33 = .ok (.aload_n 0, 1) := by decide +kernel
theorem d_Model_initMiddle_34 : decode b_Model_initMiddle 34 = .ok (.getfield 13, 3) := by decide +kernel
theorem d_Model_initMiddle_37 : decode b_Model_initMiddle 37 = .ok (.aload_n 0, 1) := by decide +kernel
theorem d_Model_initMiddle_38 : decode b_Model_initMiddle 38 = .ok (.getfield 41, 3) := by decide +kernel
theorem d_Model_initMiddle_41 : decode b_Model_initMiddle 41 = .ok (.iaload, 1) := by decide +kernel
theorem d_Model_initMiddle_42 : decode b_Model_initMiddle 42 = .ok (.iadd, 1) := by decide +kernel
theorem d_Model_initMiddle_43 : decode b_Model_initMiddle 43 = .ok (.iastore, 1) := by decide +kernel
theorem d_Model_initMiddle_44 : decode b_Model_initMiddle 44 = .ok (.aload_n 0, 1) := by decide +kernel
theorem d_Model_initMiddle_45 : decode b_Model_initMiddle 45 = .ok (.iconst 1, 1) := by decide +kernel
theorem d_Model_initMiddle_46 : decode b_Model_initMiddle 46 = .ok (.invokevirtual 66, 3) := by decide +kernel
theorem d_Model_initMiddle_49 : decode b_Model_initMiddle 49 = .ok (.return_, 1) := by decide +kernel
theorem d_Model_initLeaf_0 : decode b_Model_initLeaf 0 = .ok (.aload_n 0, 1) := by decide +kernel
theorem d_Model_initLeaf_1 : decode b_Model_initLeaf 1 = .ok (.iconst 2, 1) := by decide +kernel
theorem d_Model_initLeaf_2 : decode b_Model_initLeaf 2 = .ok (.invokevirtual 58, 3) := by decide +kernel
theorem d_Model_initLeaf_5 : decode b_Model_initLeaf 5 = .ok (.ifCond .ne 4, 3) := by decide +kernel
theorem d_Model_initLeaf_8 : decode b_Model_initLeaf 8 = .ok (.return_, 1) := by decide +kernel
theorem d_Model_initLeaf_9 : decode b_Model_initLeaf 9 = .ok (.aload_n 0, 1) := by decide +kernel
theorem d_Model_initLeaf_10 : decode b_Model_initLeaf 10 = .ok (.invokevirtual 76, 3) := by decide +kernel
theorem d_Model_initLeaf_13 : decode b_Model_initLeaf 13 = .ok (.aload_n 0, 1) := by decide +kernel
theorem d_Model_initLeaf_14 : decode b_Model_initLeaf 14 = .ok (.bipush 6, 2) := by decide +kernel
theorem d_Model_initLeaf_16 : decode b_Model_initLeaf 16 = .ok (.invokevirtual 62, 3) := by decide +kernel
theorem d_Model_initLeaf_19 : decode b_Model_initLeaf 19 = .ok (.aload_n 0, 1) := by decide +kernel
theorem d_Model_initLeaf_20 : decode b_Model_initLeaf 20 = .ok (.iconst 3, 1) := by decide +kernel
theorem d_Model_initLeaf_21 : decode b_Model_initLeaf 21 = .ok (.invokevirtual 62, 3) := by decide +kernel
theorem d_Model_initLeaf_24 : decode b_Model_initLeaf 24 = .ok (.aload_n 0, 1) := by decide +kernel
theorem d_Model_initLeaf_25 : decode b_Model_initLeaf 25 = .ok (.iconst 2, 1) := by decide +kernel
theorem d_Model_initLeaf_26 : decode b_Model_initLeaf 26 = .ok (.invokevirtual 66, 3) := by decide +kernel
theorem d_Model_initLeaf_29 : decode b_Model_initLeaf 29 = .ok (.return_, 1) := by decide +kernel
theorem d_Model_initLoud_0 : decode b_Model_initLoud 0 = .ok (.aload_n 0, 1) := by decide +kernel
theorem d_Model_initLoud_1 : decode b_Model_initLoud 1 = .ok (.bipush 7, 2) := by decide +kernel
theorem d_Model_initLoud_3 : decode b_Model_initLoud 3 = .ok (.invokevirtual 58, 3) := by decide +kernel
theorem d_Model_initLoud_6 : decode b_Model_initLoud 6 = .ok (.ifCond .ne 4, 3) := by decide +kernel
theorem d_Model_initLoud_9 : decode b_Model_initLoud 9 = .ok (.return_, 1) := by decide +kernel
theorem d_Model_initLoud_10 : decode b_Model_initLoud 10 = .ok (.aload_n 0, 1) := by decide +kernel
theorem d_Model_initLoud_11 : decode b_Model_initLoud 11 = .ok (.iconst 4, 1) := by decide +kernel
theorem d_Model_initLoud_12 : decode b_Model_initLoud 12 = .ok (.bipush 15, 2) := by decide +kernel
theorem d_Model_initLoud_14 : decode b_Model_initLoud 14 = .ok (.invokevirtual 72, 3) := by decide +kernel
theorem d_Model_initLoud_17 : decode b_Model_initLoud 17 = .ok (.aload_n 0, 1) := by decide +kernel
theorem d_Model_initLoud_18 : decode b_Model_initLoud 18 = .ok (.bipush 12, 2) := by decide +kernel
theorem d_Model_initLoud_20 : decode b_Model_initLoud 20 = .ok (.invokevirtual 62, 3) := by decide +kernel
theorem d_Model_initLoud_23 : decode b_Model_initLoud 23 = .ok (.aload_n 0, 1) := by decide +kernel
theorem d_Model_initLoud_24 : decode b_Model_initLoud 24 = .ok (.bipush 7, 2) := by decide +kernel
theorem d_Model_initLoud_26 : decode b_Model_initLoud 26 = .ok (.invokevirtual 66, 3) := by decide +kernel
theorem d_Model_initLoud_29 : decode b_Model_initLoud 29 = .ok (.return_, 1) := by decide +kernel
theorem d_Model_initBad_0 : decode b_Model_initBad 0 = .ok (.aload_n 0, 1) := by decide +kernel
theorem d_Model_initBad_1 : decode b_Model_initBad 1 = .ok (.getfield 7, 3) := by decide +kernel
theorem d_Model_initBad_4 : decode b_Model_initBad 4 = .ok (.aload_n 0, 1) := by decide +kernel
theorem d_Model_initBad_5 : decode b_Model_initBad 5 = .ok (.getfield 41, 3) := by decide +kernel
theorem d_Model_initBad_8 : decode b_Model_initBad 8 = .ok (.bipush 17, 2) := by decide +kernel
theorem d_Model_initBad_10 : decode b_Model_initBad 10 = .ok (.imul, 1) := by decide +kernel
theorem d_Model_initBad_11 : decode b_Model_initBad 11 = .ok (.bipush 8, 2) := by decide +kernel
theorem d_Model_initBad_13 : decode b_Model_initBad 13 = .ok (.iadd, 1) := by decide +kernel
theorem d_Model_initBad_14 : decode b_Model_initBad 14 = .ok (.iaload, 1) := by decide +kernel
theorem d_Model_initBad_15 : decode b_Model_initBad 15 = .ok (.iconst 3, 1) := by decide +kernel
theorem d_Model_initBad_16 : decode b_Model_initBad 16 = .ok (.if_icmp .ne 6, 3) := by decide +kernel
theorem d_Model_initBad_19 : decode b_Model_initBad 19 = .ok (.bipush (-102), 2) := by decide +kernel
theorem d_Model_initBad_21 : decode b_Model_initBad 21 = .ok (.ireturn, 1) := by decide +kernel
theorem d_Model_initBad_22 : decode b_Model_initBad 22 = .ok (.aload_n 0, 1) := by decide +kernel
theorem d_Model_initBad_23 : decode b_Model_initBad 23 = .ok (.bipush 7, 2) := by decide +kernel
theorem d_Model_initBad_25 : decode b_Model_initBad 25 = .ok (.invokevirtual 62, 3) := by decide +kernel
theorem d_Model_initBad_28 : decode b_Model_initBad 28 = .ok (.aload_n 0, 1) := by decide +kernel
theorem d_Model_initBad_29 : decode b_Model_initBad 29 = .ok (.getfield 7, 3) := by decide +kernel
theorem d_Model_initBad_32 : decode b_Model_initBad 32 = .ok (.aload_n 0, 1) := by decide +kernel
theorem d_Model_initBad_33 : decode b_Model_initBad 33 = .ok (.getfield 41, 3) := by decide +kernel
theorem d_Model_initBad_36 : decode b_Model_initBad 36 = .ok (.bipush 17, 2) := by decide +kernel
theorem d_Model_initBad_38 : decode b_Model_initBad 38 = .ok (.imul, 1) := by decide +kernel
theorem d_Model_initBad_39 : decode b_Model_initBad 39 = .ok (.bipush 8, 2) := by decide +kernel
theorem d_Model_initBad_41 : decode b_Model_initBad 41 = .ok (.iadd, 1) := by decide +kernel
theorem d_Model_initBad_42 : decode b_Model_initBad 42 = .ok (.iconst 3, 1) := by decide +kernel
theorem d_Model_initBad_43 : decode b_Model_initBad 43 = .ok (.iastore, 1) := by decide +kernel
theorem d_Model_initBad_44 : decode b_Model_initBad 44 = .ok (.bipush (-101), 2) := by decide +kernel
theorem d_Model_initBad_46 : decode b_Model_initBad 46 = .ok (.ireturn, 1) := by decide +kernel
theorem d_Model_initWorse_0 : decode b_Model_initWorse 0 = .ok (.aload_n 0, 1) := by decide +kernel
theorem d_Model_initWorse_1 : decode b_Model_initWorse 1 = .ok (.getfield 7, 3) := by decide +kernel
theorem d_Model_initWorse_4 : decode b_Model_initWorse 4 = .ok (.aload_n 0, 1) := by decide +kernel
theorem d_Model_initWorse_5 : decode b_Model_initWorse 5 = .ok (.getfield 41, 3) := by decide +kernel
theorem d_Model_initWorse_8 : decode b_Model_initWorse 8 = .ok (.bipush 17, 2) := by decide +kernel
theorem d_Model_initWorse_10 : decode b_Model_initWorse 10 = .ok (.imul, 1) := by decide +kernel
theorem d_Model_initWorse_11 : decode b_Model_initWorse 11 = .ok (.bipush 9, 2) := by decide +kernel
theorem d_Model_initWorse_13 : decode b_Model_initWorse 13 = .ok (.iadd, 1) := by decide +kernel
theorem d_Model_initWorse_14 : decode b_Model_initWorse 14 = .ok (.iaload, 1) := by decide +kernel
theorem d_Model_initWorse_15 : decode b_Model_initWorse 15 = .ok (.iconst 3, 1) := by decide +kernel
theorem d_Model_initWorse_16 : decode b_Model_initWorse 16 = .ok (.if_icmp .ne 6, 3) := by decide +kernel
theorem d_Model_initWorse_19 : decode b_Model_initWorse 19 = .ok (.bipush (-102), 2) := by decide +kernel
theorem d_Model_initWorse_21 : decode b_Model_initWorse 21 = .ok (.ireturn, 1) := by decide +kernel
theorem d_Model_initWorse_22 : decode b_Model_initWorse 22 = .ok (.aload_n 0, 1) := by decide +kernel
theorem d_Model_initWorse_23 : decode b_Model_initWorse 23 = .ok (.getfield 7, 3) := by decide +kernel
theorem d_Model_initWorse_26 : decode b_Model_initWorse 26 = .ok (.aload_n 0, 1) := by decide +kernel
theorem d_Model_initWorse_27 : decode b_Model_initWorse 27 = .ok (.getfield 41, 3) := by decide +kernel
theorem d_Model_initWorse_30 : decode b_Model_initWorse 30 = .ok (.bipush 17, 2) := by decide +kernel
theorem d_Model_initWorse_32 : decode b_Model_initWorse 32 = .ok (.imul, 1) := by decide +kernel
theorem d_Model_initWorse_33 : decode b_Model_initWorse 33 = .ok (.bipush 9, 2) := by decide +kernel
theorem d_Model_initWorse_35 : decode b_Model_initWorse 35 = .ok (.iadd, 1) := by decide +kernel
theorem d_Model_initWorse_36 : decode b_Model_initWorse 36 = .ok (.iconst 3, 1) := by decide +kernel
theorem d_Model_initWorse_37 : decode b_Model_initWorse 37 = .ok (.iastore, 1) := by decide +kernel
theorem d_Model_initWorse_38 : decode b_Model_initWorse 38 = .ok (.aload_n 0, 1) := by decide +kernel
theorem d_Model_initWorse_39 : decode b_Model_initWorse 39 = .ok (.invokevirtual 79, 3) := by decide +kernel
theorem d_Model_initWorse_42 : decode b_Model_initWorse 42 = .ok (.ireturn, 1) := by decide +kernel
theorem d_Model_initCircle_0 : decode b_Model_initCircle 0 = .ok (.aload_n 0, 1) := by decide +kernel
theorem d_Model_initCircle_1 : decode b_Model_initCircle 1 = .ok (.iload_n 1, 1) := by decide +kernel
theorem d_Model_initCircle_2 : decode b_Model_initCircle 2 = .ok (.ifCond .eq 8, 3) := by decide +kernel
theorem d_Model_initCircle_5 : decode b_Model_initCircle 5 = .ok (.bipush 10, 2) := by decide +kernel
theorem d_Model_initCircle_7 : decode b_Model_initCircle 7 = .ok (.goto 5, 3) := by decide +kernel
theorem d_Model_initCircle_10 : decode b_Model_initCircle 10 = .ok (.bipush 11, 2) := by decide +kernel
theorem d_Model_initCircle_12 : decode b_Model_initCircle 12 = .ok (.invokevirtual 58, 3) := by decide +kernel
theorem d_Model_initCircle_15 : decode b_Model_initCircle 15 = .ok (.ifCond .ne 4, 3) := by decide +kernel
theorem d_Model_initCircle_18 : decode b_Model_initCircle 18 = .ok (.return_, 1) := by decide +kernel
theorem d_Model_initCircle_19 : decode b_Model_initCircle 19 = .ok (.aload_n 0, 1) := by decide +kernel
theorem d_Model_initCircle_20 : decode b_Model_initCircle 20 = .ok (.iload_n 1, 1) := by decide +kernel
theorem d_Model_initCircle_21 : decode b_Model_initCircle 21 = .ok (.ifCond .eq 8, 3) := by decide +kernel
theorem d_Model_initCircle_24 : decode b_Model_initCircle 24 = .ok (.bipush 11, 2) := by decide +kernel
theorem d_Model_initCircle_26 : decode b_Model_initCircle 26 = .ok (.goto 5, 3) := by decide +kernel
theorem d_Model_initCircle_29 : decode b_Model_initCircle 29 = .ok (.bipush 10, 2) := by decide +kernel
