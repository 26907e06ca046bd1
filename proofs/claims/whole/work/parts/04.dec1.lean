theorem d_Kinds_isThere_0 : decode b_Kinds_isThere 0 = .ok (.iload_n 0, 1) := by decide +kernel
theorem d_Kinds_isThere_1 : decode b_Kinds_isThere 1 = .ok (.ifCond .lt 13, 3) := by decide +kernel
theorem d_Kinds_isThere_4 : decode b_Kinds_isThere 4 = .ok (.iload_n 0, 1) := by decide +kernel
theorem d_Kinds_isThere_5 : decode b_Kinds_isThere 5 = .ok (.bipush 17, 2) := by decide +kernel
theorem d_Kinds_isThere_7 : decode b_Kinds_isThere 7 = .ok (.if_icmp .ge 7, 3) := by decide +kernel
theorem d_Kinds_isThere_10 : decode b_Kinds_isThere 10 = .ok (.iconst 1, 1) := by decide +kernel
theorem d_Kinds_isThere_11 : decode b_Kinds_isThere 11 = .ok (.goto 4, 3) := by decide +kernel
theorem d_Kinds_isThere_14 : decode b_Kinds_isThere 14 = .ok (.iconst 0, 1) := by decide +kernel
theorem d_Kinds_isThere_15 : decode b_Kinds_isThere 15 = .ok (.ireturn, 1) := by decide +kernel
theorem d_Kinds_up_0 : decode b_Kinds_up 0 = .ok (.iload_n 0, 1) := by decide +kernel
theorem d_Kinds_up_1 : decode b_Kinds_up 1 = .ok (.invokestatic 11, 3) := by decide +kernel
theorem d_Kinds_up_4 : decode b_Kinds_up 4 = .ok (.ifCond .eq 11, 3) := by decide +kernel
theorem d_Kinds_up_7 : decode b_Kinds_up 7 = .ok (.getstatic 15, 3) := by decide +kernel
theorem d_Kinds_up_10 : decode b_Kinds_up 10 = .ok (.iload_n 0, 1) := by decide +kernel
theorem d_Kinds_up_11 : decode b_Kinds_up 11 = .ok (.iaload, 1) := by decide +kernel
theorem d_Kinds_up_12 : decode b_Kinds_up 12 = .ok (.goto 4, 3) := by decide +kernel
theorem d_Kinds_up_15 : decode b_Kinds_up 15 = .ok (.iconst (-1), 1) := by decide +kernel
theorem d_Kinds_up_16 : decode b_Kinds_up 16 = .ok (.ireturn, 1) := by decide +kernel
theorem d_Kinds_isInterface_0 : decode b_Kinds_isInterface 0 = .ok (.iload_n 0, 1) := by decide +kernel
theorem d_Kinds_isInterface_1 : decode b_Kinds_isInterface 1 = .ok (.iconst 3, 1) := by decide +kernel
theorem d_Kinds_isInterface_2 : decode b_Kinds_isInterface 2 = .ok (.if_icmp .eq 13, 3) := by decide +kernel
theorem d_Kinds_isInterface_5 : decode b_Kinds_isInterface 5 = .ok (.iload_n 0, 1) := by decide +kernel
theorem d_Kinds_isInterface_6 : decode b_Kinds_isInterface 6 = .ok (.iconst 4, 1) := by decide +kernel
theorem d_Kinds_isInterface_7 : decode b_Kinds_isInterface 7 = .ok (.if_icmp .eq 8, 3) := by decide +kernel
theorem d_Kinds_isInterface_10 : decode b_Kinds_isInterface 10 = .ok (.iload_n 0, 1) := by decide +kernel
theorem d_Kinds_isInterface_11 : decode b_Kinds_isInterface 11 = .ok (.iconst 5, 1) := by decide +kernel
theorem d_Kinds_isInterface_12 : decode b_Kinds_isInterface 12 = .ok (.if_icmp .ne 7, 3) := by decide +kernel
theorem d_Kinds_isInterface_15 : decode b_Kinds_isInterface 15 = .ok (.iconst 1, 1) := by decide +kernel
theorem d_Kinds_isInterface_16 : decode b_Kinds_isInterface 16 = .ok (.goto 4, 3) := by decide +kernel
theorem d_Kinds_isInterface_19 : decode b_Kinds_isInterface 19 = .ok (.iconst 0, 1) := by decide +kernel
theorem d_Kinds_isInterface_20 : decode b_Kinds_isInterface 20 = .ok (.ireturn, 1) := by decide +kernel
theorem d_Kinds_hasBody_0 : decode b_Kinds_hasBody 0 = .ok (.iload_n 0, 1) := by decide +kernel
theorem d_Kinds_hasBody_1 : decode b_Kinds_hasBody 1 = .ok (.iconst 4, 1) := by decide +kernel
theorem d_Kinds_hasBody_2 : decode b_Kinds_hasBody 2 = .ok (.if_icmp .eq 8, 3) := by decide +kernel
theorem d_Kinds_hasBody_5 : decode b_Kinds_hasBody 5 = .ok (.iload_n 0, 1) := by decide +kernel
theorem d_Kinds_hasBody_6 : decode b_Kinds_hasBody 6 = .ok (.iconst 5, 1) := by decide +kernel
theorem d_Kinds_hasBody_7 : decode b_Kinds_hasBody 7 = .ok (.if_icmp .ne 7, 3) := by decide +kernel
theorem d_Kinds_hasBody_10 : decode b_Kinds_hasBody 10 = .ok (.iconst 1, 1) := by decide +kernel
theorem d_Kinds_hasBody_11 : decode b_Kinds_hasBody 11 = .ok (.goto 4, 3) := by decide +kernel
theorem d_Kinds_hasBody_14 : decode b_Kinds_hasBody 14 = .ok (.iconst 0, 1) := by decide +kernel
theorem d_Kinds_hasBody_15 : decode b_Kinds_hasBody 15 = .ok (.ireturn, 1) := by decide +kernel
theorem d_Kinds_reaches_0 : decode b_Kinds_reaches 0 = .ok (.iload_n 0, 1) := by decide +kernel
theorem d_Kinds_reaches_1 : decode b_Kinds_reaches 1 = .ok (.iconst (-1), 1) := by decide +kernel
theorem d_Kinds_reaches_2 : decode b_Kinds_reaches 2 = .ok (.if_icmp .eq 9, 3) := by decide +kernel
theorem d_Kinds_reaches_5 : decode b_Kinds_reaches 5 = .ok (.iload_n 2, 1) := by decide +kernel
theorem d_Kinds_reaches_6 : decode b_Kinds_reaches 6 = .ok (.bipush 34, 2) := by decide +kernel
theorem d_Kinds_reaches_8 : decode b_Kinds_reaches 8 = .ok (.if_icmp .le 5, 3) := by decide +kernel
theorem d_Kinds_reaches_11 : decode b_Kinds_reaches 11 = .ok (.iconst 0, 1) := by decide +kernel
theorem d_Kinds_reaches_12 : decode b_Kinds_reaches 12 = .ok (.ireturn, 1) := by decide +kernel
theorem d_Kinds_reaches_13 : decode b_Kinds_reaches 13 = .ok (.iload_n 0, 1) := by decide +kernel
theorem d_Kinds_reaches_14 : decode b_Kinds_reaches 14 = .ok (.iload_n 1, 1) := by decide +kernel
theorem d_Kinds_reaches_15 : decode b_Kinds_reaches 15 = .ok (.if_icmp .eq 17, 3) := by decide +kernel
theorem d_Kinds_reaches_18 : decode b_Kinds_reaches 18 = .ok (.iload_n 0, 1) := by decide +kernel
theorem d_Kinds_reaches_19 : decode b_Kinds_reaches 19 = .ok (.invokestatic 23, 3) := by decide +kernel
theorem d_Kinds_reaches_22 : decode b_Kinds_reaches 22 = .ok (.iload_n 1, 1) := by decide +kernel
theorem d_Kinds_reaches_23 : decode b_Kinds_reaches 23 = .ok (.iload_n 2, 1) := by decide +kernel
theorem d_Kinds_reaches_24 : decode b_Kinds_reaches 24 = .ok (.iconst 1, 1) := by decide +kernel
theorem d_Kinds_reaches_25 : decode b_Kinds_reaches 25 = .ok (.iadd, 1) := by decide +kernel
theorem d_Kinds_reaches_26 : decode b_Kinds_reaches 26 = .ok (.invokestatic 19, 3) := by decide +kernel
theorem d_Kinds_reaches_29 : decode b_Kinds_reaches 29 = .ok (.ifCond .eq 5, 3) := by decide +kernel
theorem d_Kinds_reaches_32 : decode b_Kinds_reaches 32 = .ok (.iconst 1, 1) := by decide +kernel
theorem d_Kinds_reaches_33 : decode b_Kinds_reaches 33 = .ok (.ireturn, 1) := by decide +kernel
theorem d_Kinds_reaches_34 : decode b_Kinds_reaches 34 = .ok (.iconst 0, 1) := by decide +kernel
theorem d_Kinds_reaches_35 : decode b_Kinds_reaches 35 = .ok (.istore_n 3, 1) := by decide +kernel
theorem d_Kinds_reaches_36 : decode b_Kinds_reaches 36 = .ok (.iload_n 3, 1) := by decide +kernel
theorem d_Kinds_reaches_37 : decode b_Kinds_reaches 37 = .ok (.getstatic 27, 3) := by decide +kernel
theorem d_Kinds_reaches_40 : decode b_Kinds_reaches 40 = .ok (.arraylength, 1) := by decide +kernel
theorem d_Kinds_reaches_41 : decode b_Kinds_reaches 41 = .ok (.if_icmp .ge 35, 3) := by decide +kernel
theorem d_Kinds_reaches_44 : decode b_Kinds_reaches 44 = .ok (.getstatic 27, 3) := by decide +kernel
theorem d_Kinds_reaches_47 : decode b_Kinds_reaches 47 = .ok (.iload_n 3, 1) := by decide +kernel
theorem d_Kinds_reaches_48 : decode b_Kinds_reaches 48 = .ok (.iaload, 1) := by decide +kernel
theorem d_Kinds_reaches_49 : decode b_Kinds_reaches 49 = .ok (.iload_n 0, 1) := by decide +kernel
theorem d_Kinds_reaches_50 : decode b_Kinds_reaches 50 = .ok (.if_icmp .ne 20, 3) := by decide +kernel
theorem d_Kinds_reaches_53 : decode b_Kinds_reaches 53 = .ok (.getstatic 30, 3) := by decide +kernel
theorem d_Kinds_reaches_56 : decode b_Kinds_reaches 56 = .ok (.iload_n 3, 1) := by decide +kernel
theorem d_Kinds_reaches_57 : decode b_Kinds_reaches 57 = .ok (.iaload, 1) := by decide +kernel
theorem d_Kinds_reaches_58 : decode b_Kinds_reaches 58 = .ok (.iload_n 1, 1) := by decide +kernel
theorem d_Kinds_reaches_59 : decode b_Kinds_reaches 59 = .ok (.iload_n 2, 1) := by decide +kernel
theorem d_Kinds_reaches_60 : decode b_Kinds_reaches 60 = .ok (.iconst 1, 1) := by decide +kernel
theorem d_Kinds_reaches_61 : decode b_Kinds_reaches 61 = .ok (.iadd, 1) := by decide +kernel
theorem d_Kinds_reaches_62 : decode b_Kinds_reaches 62 = .ok (.invokestatic 19, 3) := by decide +kernel
theorem d_Kinds_reaches_65 : decode b_Kinds_reaches 65 = .ok (.ifCond .eq 5, 3) := by decide +kernel
theorem d_Kinds_reaches_68 : decode b_Kinds_reaches 68 = .ok (.iconst 1, 1) := by decide +kernel
theorem d_Kinds_reaches_69 : decode b_Kinds_reaches 69 = .ok (.ireturn, 1) := by decide +kernel
theorem d_Kinds_reaches_70 : decode b_Kinds_reaches 70 = .ok (.iinc 3 1, 3) := by decide +kernel
theorem d_Kinds_reaches_73 : decode b_Kinds_reaches 73 = .ok (.goto (-37), 3) := by decide +kernel
theorem d_Kinds_reaches_76 : decode b_Kinds_reaches 76 = .ok (.iconst 0, 1) := by decide +kernel
theorem d_Kinds_reaches_77 : decode b_Kinds_reaches 77 = .ok (.ireturn, 1) := by decide +kernel
theorem d_Kinds_isWithin_0 : decode b_Kinds_isWithin 0 = .ok (.iload_n 0, 1) := by decide +kernel
theorem d_Kinds_isWithin_1 : decode b_Kinds_isWithin 1 = .ok (.iload_n 1, 1) := by decide +kernel
theorem d_Kinds_isWithin_2 : decode b_Kinds_isWithin 2 = .ok (.iconst 0, 1) := by decide +kernel
theorem d_Kinds_isWithin_3 : decode b_Kinds_isWithin 3 = .ok (.invokestatic 19, 3) := by decide +kernel
theorem d_Kinds_isWithin_6 : decode b_Kinds_isWithin 6 = .ok (.ireturn, 1) := by decide +kernel
theorem d_World_write_0 : decode b_World_write 0 = .ok (.aload_n 0, 1) := by decide +kernel
theorem d_World_write_1 : decode b_World_write 1 = .ok (.getfield 81, 3) := by decide +kernel
theorem d_World_write_4 : decode b_World_write 4 = .ok (.bipush 64, 2) := by decide +kernel
theorem d_World_write_6 : decode b_World_write 6 = .ok (.if_icmp .ge 13, 3) := by decide +kernel
theorem d_World_write_9 : decode b_World_write 9 = .ok (.aload_n 0, 1) := by decide +kernel
theorem d_World_write_10 : decode b_World_write 10 = .ok (.getfield 11, 3) := by decide +kernel
theorem d_World_write_13 : decode b_World_write 13 = .ok (.aload_n 0, 1) := by decide +kernel
theorem d_World_write_14 : decode b_World_write 14 = .ok (.getfield 81, 3) := by decide +kernel
theorem d_World_write_17 : decode b_World_write 17 = .ok (.iload_n 1, 1) := by decide +kernel
theorem d_World_write_18 : decode b_World_write 18 = .ok (.iastore, 1) := by decide +kernel
theorem d_World_write_19 : decode b_World_write 19 = .ok (.aload_n 0, 1) := by decide +kernel
theorem d_World_write_20 : decode b_World_write 20 = .ok (.dup, 1) := by decide +kernel
theorem d_World_write_21 : decode b_World_write 21 = .ok (.getfield 81, 3) := by decide +kernel
theorem d_World_write_24 : decode b_World_write 24 = .ok (.iconst 1, 1) := by decide +kernel
theorem d_World_write_25 : decode b_World_write 25 = .ok (.iadd, 1) := by decide +kernel
theorem d_World_write_26 : decode b_World_write 26 = .ok (.putfield 81, 3) := by decide +kernel
theorem d_World_write_29 : decode b_World_write 29 = .ok (.iload_n 1, 1) := by decide +kernel
theorem d_World_write_30 : decode b_World_write 30 = .ok (.ireturn, 1) := by decide +kernel
theorem d_World_isKept_0 : decode b_World_isKept 0 = .ok (.iload_n 1, 1) := by decide +kernel
theorem d_World_isKept_1 : decode b_World_isKept 1 = .ok (.ifCond .lt 21, 3) := by decide +kernel
theorem d_World_isKept_4 : decode b_World_isKept 4 = .ok (.iload_n 1, 1) := by decide +kernel
theorem d_World_isKept_5 : decode b_World_isKept 5 = .ok (.aload_n 0, 1) := by decide +kernel
theorem d_World_isKept_6 : decode b_World_isKept 6 = .ok (.getfield 81, 3) := by decide +kernel
theorem d_World_isKept_9 : decode b_World_isKept 9 = .ok (.if_icmp .ge 13, 3) := by decide +kernel
theorem d_World_isKept_12 : decode b_World_isKept 12 = .ok (.iload_n 1, 1) := by decide +kernel
theorem d_World_isKept_13 : decode b_World_isKept 13 = .ok (.bipush 64, 2) := by decide +kernel
theorem d_World_isKept_15 : decode b_World_isKept 15 = .ok (.if_icmp .ge 7, 3) := by decide +kernel
theorem d_World_isKept_18 : decode b_World_isKept 18 = .ok (.iconst 1, 1) := by decide +kernel
theorem d_World_isKept_19 : decode b_World_isKept 19 = .ok (.goto 4, 3) := by decide +kernel
theorem d_World_isKept_22 : decode b_World_isKept 22 = .ok (.iconst 0, 1) := by decide +kernel
theorem d_World_isKept_23 : decode b_World_isKept 23 = .ok (.ireturn, 1) := by decide +kernel
theorem d_World_construct_0 : decode b_World_construct 0 = .ok (.iload_n 1, 1) := by decide +kernel
theorem d_World_construct_1 : decode b_World_construct 1 = .ok (.iconst 1, 1) := by decide +kernel
theorem d_World_construct_2 : decode b_World_construct 2 = .ok (.if_icmp .eq 8, 3) := by decide +kernel
theorem d_World_construct_5 : decode b_World_construct 5 = .ok (.iload_n 1, 1) := by decide +kernel
theorem d_World_construct_6 : decode b_World_construct 6 = .ok (.iconst 2, 1) := by decide +kernel
theorem d_World_construct_7 : decode b_World_construct 7 = .ok (.if_icmp .ne 7, 3) := by decide +kernel
theorem d_World_construct_10 : decode b_World_construct 10 = .ok (.iconst 1, 1) := by decide +kernel
theorem d_World_construct_11 : decode b_World_construct 11 = .ok (.goto 4, 3) := by decide +kernel
theorem d_World_construct_14 : decode b_World_construct 14 = .ok (.iconst 0, 1) := by decide +kernel
theorem d_World_construct_15 : decode b_World_construct 15 = .ok (.istore_n 2, 1) := by decide +kernel
theorem d_World_construct_16 : decode b_World_construct 16 = .ok (.iload_n 2, 1) := by decide +kernel
theorem d_World_construct_17 : decode b_World_construct 17 = .ok (.ifCond .ne 13, 3) := by decide +kernel
theorem d_World_construct_20 : decode b_World_construct 20 = .ok (.iload_n 1, 1) := by decide +kernel
theorem d_World_construct_21 : decode b_World_construct 21 = .ok (.ifCond .eq 9, 3) := by decide +kernel
theorem d_World_construct_24 : decode b_World_construct 24 = .ok (.iload_n 1, 1) := by decide +kernel
theorem d_World_construct_25 : decode b_World_construct 25 = .ok (.bipush 13, 2) := by decide +kernel
theorem d_World_construct_27 : decode b_World_construct 27 = .ok (.if_icmp .ne 10, 3) := by decide +kernel
theorem d_World_construct_30 : decode b_World_construct 30 = .ok (.aload_n 0, 1) := by decide +kernel
theorem d_World_construct_31 : decode b_World_construct 31 = .ok (.bipush 20, 2) := by decide +kernel
theorem d_World_construct_33 : decode b_World_construct 33 = .ok (.invokevirtual 65, 3) := by decide +kernel
theorem d_World_construct_36 : decode b_World_construct 36 = .ok (.pop, 1) := by decide +kernel
theorem d_World_construct_37 : decode b_World_construct 37 = .ok (.iload_n 2, 1) := by decide +kernel
theorem d_World_construct_38 : decode b_World_construct 38 = .ok (.ifCond .eq 24, 3) := by decide +kernel
theorem d_World_construct_41 : decode b_World_construct 41 = .ok (.aload_n 0, 1) := by decide +kernel
theorem d_World_construct_42 : decode b_World_construct 42 = .ok (.bipush 21, 2) := by decide +kernel
theorem d_World_construct_44 : decode b_World_construct 44 = .ok (.invokevirtual 65, 3) := by decide +kernel
theorem d_World_construct_47 : decode b_World_construct 47 = .ok (.pop, 1) := by decide +kernel
theorem d_World_construct_48 : decode b_World_construct 48 = .ok (.aload_n 0, 1) := by decide +kernel
theorem d_World_construct_49 : decode b_World_construct 49 = .ok (.bipush 22, 2) := by decide +kernel
theorem d_World_construct_51 : decode b_World_construct 51 = .ok (.invokevirtual 65, 3) := by decide +kernel
theorem d_World_construct_54 : decode b_World_construct 54 = .ok (.pop, 1) := by decide +kernel
theorem d_World_construct_55 : decode b_World_construct 55 = .ok (.aload_n 0, 1) := by decide +kernel
theorem d_World_construct_56 : decode b_World_construct 56 = .ok (.bipush 23, 2) := by decide +kernel
theorem d_World_construct_58 : decode b_World_construct 58 = .ok (.invokevirtual 65, 3) := by decide +kernel
theorem d_World_construct_61 : decode b_World_construct 61 = .ok (.pop, 1) := by decide +kernel
theorem d_World_construct_62 : decode b_World_construct 62 = .ok (.return_, 1) := by decide +kernel
theorem d_World_onlyNote_0 : decode b_World_onlyNote 0 = .ok (.iload_n 0, 1) := by decide +kernel
theorem d_World_onlyNote_1 : decode b_World_onlyNote 1 = .ok (.tableswitch 74 3 12 #[55, 57, 60, 62, 65, 74, 68, 74, 74, 71], 55) := by decide +kernel
theorem d_World_onlyNote_56 : decode b_World_onlyNote 56 = .ok (.iconst 4, 1) := by decide +kernel
theorem d_World_onlyNote_57 : decode b_World_onlyNote 57 = .ok (.ireturn, 1) := by decide +kernel
theorem d_World_onlyNote_58 : decode b_World_onlyNote 58 = .ok (.bipush 15, 2) := by decide +kernel
theorem d_World_onlyNote_60 : decode b_World_onlyNote 60 = .ok (.ireturn, 1) := by decide +kernel
theorem d_World_onlyNote_61 : decode b_World_onlyNote 61 = .ok (.iconst 5, 1) := by decide +kernel
theorem d_World_onlyNote_62 : decode b_World_onlyNote 62 = .ok (.ireturn, 1) := by decide +kernel
theorem d_World_onlyNote_63 : decode b_World_onlyNote 63 = .ok (.bipush 11, 2) := by decide +kernel
theorem d_World_onlyNote_65 : decode b_World_onlyNote 65 = .ok (.ireturn, 1) := by decide +kernel
theorem d_World_onlyNote_66 : decode b_World_onlyNote 66 = .ok (.bipush 12, 2) := by decide +kernel
theorem d_World_onlyNote_68 : decode b_World_onlyNote 68 = .ok (.ireturn, 1) := by decide +kernel
theorem d_World_onlyNote_69 : decode b_World_onlyNote 69 = .ok (.bipush 8, 2) := by decide +kernel
theorem d_World_onlyNote_71 : decode b_World_onlyNote 71 = .ok (.ireturn, 1) := by decide +kernel
theorem d_World_onlyNote_72 : decode b_World_onlyNote 72 = .ok (.bipush 13, 2) := by decide +kernel
theorem d_World_onlyNote_74 : decode b_World_onlyNote 74 = .ok (.ireturn, 1) := by decide +kernel
theorem d_World_onlyNote_75 : decode b_World_onlyNote 75 = .ok (.bipush 19, 2) := by decide +kernel
theorem d_World_onlyNote_77 : decode b_World_onlyNote 77 = .ok (.ireturn, 1) := by decide +kernel
theorem d_World_initialiseAt_0 : decode b_World_initialiseAt 0 = .ok (.iload_n 2, 1) := by decide +kernel
theorem d_World_initialiseAt_1 : decode b_World_initialiseAt 1 = .ok (.bipush 34, 2) := by decide +kernel
theorem d_World_initialiseAt_3 : decode b_World_initialiseAt 3 = .ok (.if_icmp .le 5, 3) := by decide +kernel
theorem d_World_initialiseAt_6 : decode b_World_initialiseAt 6 = .ok (.iconst (-1), 1) := by decide +kernel
theorem d_World_initialiseAt_7 : decode b_World_initialiseAt 7 = .ok (.ireturn, 1) := by decide +kernel
theorem d_World_initialiseAt_8 : decode b_World_initialiseAt 8 = .ok (.iload_n 1, 1) := by decide +kernel
theorem d_World_initialiseAt_9 : decode b_World_initialiseAt 9 = .ok (.invokestatic 35, 3) := by decide +kernel
theorem d_World_initialiseAt_12 : decode b_World_initialiseAt 12 = .ok (.ifCond .ne 5, 3) := by decide +kernel
theorem d_World_initialiseAt_15 : decode b_World_initialiseAt 15 = .ok (.iconst 0, 1) := by decide +kernel
theorem d_World_initialiseAt_16 : decode b_World_initialiseAt 16 = .ok (.ireturn, 1) := by decide +kernel
theorem d_World_initialiseAt_17 : decode b_World_initialiseAt 17 = .ok (.aload_n 0, 1) := by decide +kernel
theorem d_World_initialiseAt_18 : decode b_World_initialiseAt 18 = .ok (.getfield 20, 3) := by decide +kernel
theorem d_World_initialiseAt_21 : decode b_World_initialiseAt 21 = .ok (.iload_n 1, 1) := by decide +kernel
theorem d_World_initialiseAt_22 : decode b_World_initialiseAt 22 = .ok (.iaload, 1) := by decide +kernel
theorem d_World_initialiseAt_23 : decode b_World_initialiseAt 23 = .ok (.iconst 3, 1) := by decide +kernel
theorem d_World_initialiseAt_24 : decode b_World_initialiseAt 24 = .ok (.if_icmp .ne 6, 3) := by decide +kernel
theorem d_World_initialiseAt_27 : decode b_World_initialiseAt 27 = .ok (.bipush (-102), 2) := by decide +kernel
theorem d_World_initialiseAt_29 : decode b_World_initialiseAt 29 = .ok (.ireturn, 1) := by decide +kernel
theorem d_World_initialiseAt_30 : decode b_World_initialiseAt 30 = .ok (.aload_n 0, 1) := by decide +kernel
theorem d_World_initialiseAt_31 : decode b_World_initialiseAt 31 = .ok (.getfield 20, 3) := by decide +kernel
theorem d_World_initialiseAt_34 : decode b_World_initialiseAt 34 = .ok (.iload_n 1, 1) := by decide +kernel
theorem d_World_initialiseAt_35 : decode b_World_initialiseAt 35 = .ok (.iaload, 1) := by decide +kernel
theorem d_World_initialiseAt_36 : decode b_World_initialiseAt 36 = .ok (.ifCond .eq 5, 3) := by decide +kernel
theorem d_World_initialiseAt_39 : decode b_World_initialiseAt 39 = .ok (.iconst 0, 1) := by decide +kernel
theorem d_World_initialiseAt_40 : decode b_World_initialiseAt 40 = .ok (.ireturn, 1) := by decide +kernel
theorem d_World_initialiseAt_41 : decode b_World_initialiseAt 41 = .ok (.aload_n 0, 1) := by decide +kernel
theorem d_World_initialiseAt_42 : decode b_World_initialiseAt 42 = .ok (.getfield 20, 3) := by decide +kernel
theorem d_World_initialiseAt_45 : decode b_World_initialiseAt 45 = .ok (.iload_n 1, 1) := by decide +kernel
theorem d_World_initialiseAt_46 : decode b_World_initialiseAt 46 = .ok (.iconst 1, 1) := by decide +kernel
theorem d_World_initialiseAt_47 : decode b_World_initialiseAt 47 = .ok (.iastore, 1) := by decide +kernel
theorem d_World_initialiseAt_48 : decode b_World_initialiseAt 48 = .ok (.aload_n 0, 1) := by decide +kernel
theorem d_World_initialiseAt_49 : decode b_World_initialiseAt 49 = .ok (.iload_n 1, 1) := by decide +kernel
theorem d_World_initialiseAt_50 : decode b_World_initialiseAt 50 = .ok (.iload_n 2, 1) := by decide +kernel
theorem d_World_initialiseAt_51 : decode b_World_initialiseAt 51 = .ok (.iconst 1, 1) := by decide +kernel
theorem d_World_initialiseAt_52 : decode b_World_initialiseAt 52 = .ok (.iadd, 1) := by decide +kernel
theorem d_World_initialiseAt_53 : decode b_World_initialiseAt 53 = .ok (.invokevirtual 39, 3) := by decide +kernel
theorem d_World_initialiseAt_56 : decode b_World_initialiseAt 56 = .ok (.istore_n 3, 1) := by decide +kernel
theorem d_World_initialiseAt_57 : decode b_World_initialiseAt 57 = .ok (.iload_n 3, 1) := by decide +kernel
theorem d_World_initialiseAt_58 : decode b_World_initialiseAt 58 = .ok (.ifCond .ne 12, 3) := by decide +kernel
theorem d_World_initialiseAt_61 : decode b_World_initialiseAt 61 = .ok (.aload_n 0, 1) := by decide +kernel
theorem d_World_initialiseAt_62 : decode b_World_initialiseAt 62 = .ok (.iload_n 1, 1) := by decide +kernel
theorem d_World_initialiseAt_63 : decode b_World_initialiseAt 63 = .ok (.iload_n 2, 1) := by decide +kernel
