theorem d_Suite_find_8 : decode b_Suite_find 8 = .ok (.ireturn, 1) := by decide +kernel
theorem d_Suite_find_9 : decode b_Suite_find 9 = .ok (.aload_n 0, 1) := by decide +kernel
theorem d_Suite_find_10 : decode b_Suite_find 10 = .ok (.getfield 29, 3) := by decide +kernel
theorem d_Suite_find_13 : decode b_Suite_find 13 = .ok (.ifnonnull 6, 3) := by decide +kernel
theorem d_Suite_find_16 : decode b_Suite_find 16 = .ok (.bipush (-2), 2) := by decide +kernel
theorem d_Suite_find_18 : decode b_Suite_find 18 = .ok (.ireturn, 1) := by decide +kernel
theorem d_Suite_find_19 : decode b_Suite_find 19 = .ok (.iload_n 2, 1) := by decide +kernel
theorem d_Suite_find_20 : decode b_Suite_find 20 = .ok (.ifCond .eq 14, 3) := by decide +kernel
theorem d_Suite_find_23 : decode b_Suite_find 23 = .ok (.aload_n 0, 1) := by decide +kernel
theorem d_Suite_find_24 : decode b_Suite_find 24 = .ok (.getfield 29, 3) := by decide +kernel
theorem d_Suite_find_27 : decode b_Suite_find 27 = .ok (.iload_n 1, 1) := by decide +kernel
theorem d_Suite_find_28 : decode b_Suite_find 28 = .ok (.invokevirtual 53, 3) := by decide +kernel
theorem d_Suite_find_31 : decode b_Suite_find 31 = .ok (.goto 4, 3) := by decide +kernel
theorem d_Suite_find_34 : decode b_Suite_find 34 = .ok (.iconst 0, 1) := by decide +kernel
theorem d_Suite_find_35 : decode b_Suite_find 35 = .ok (.ireturn, 1) := by decide +kernel
theorem d_Suite_keep_0 : decode b_Suite_keep 0 = .ok (.iload_n 1, 1) := by decide +kernel
theorem d_Suite_keep_1 : decode b_Suite_keep 1 = .ok (.invokestatic 57, 3) := by decide +kernel
theorem d_Suite_keep_4 : decode b_Suite_keep 4 = .ok (.ifCond .eq 15, 3) := by decide +kernel
theorem d_Suite_keep_7 : decode b_Suite_keep 7 = .ok (.iload_n 2, 1) := by decide +kernel
theorem d_Suite_keep_8 : decode b_Suite_keep 8 = .ok (.ifCond .lt 11, 3) := by decide +kernel
theorem d_Suite_keep_11 : decode b_Suite_keep 11 = .ok (.iload_n 2, 1) := by decide +kernel
theorem d_Suite_keep_12 : decode b_Suite_keep 12 = .ok (.getstatic 60, 3) := by decide +kernel
theorem d_Suite_keep_15 : decode b_Suite_keep 15 = .ok (.arraylength, 1) := by decide +kernel
theorem d_Suite_keep_16 : decode b_Suite_keep 16 = .ok (.if_icmp .lt 5, 3) := by decide +kernel
theorem d_Suite_keep_19 : decode b_Suite_keep 19 = .ok (.iconst (-1), 1) := by decide +kernel
theorem d_Suite_keep_20 : decode b_Suite_keep 20 = .ok (.ireturn, 1) := by decide +kernel
theorem d_Suite_keep_21 : decode b_Suite_keep 21 = .ok (.aload_n 0, 1) := by decide +kernel
theorem d_Suite_keep_22 : decode b_Suite_keep 22 = .ok (.getfield 29, 3) := by decide +kernel
theorem d_Suite_keep_25 : decode b_Suite_keep 25 = .ok (.ifnonnull 6, 3) := by decide +kernel
theorem d_Suite_keep_28 : decode b_Suite_keep 28 = .ok (.bipush (-2), 2) := by decide +kernel
theorem d_Suite_keep_30 : decode b_Suite_keep 30 = .ok (.ireturn, 1) := by decide +kernel
theorem d_Suite_keep_31 : decode b_Suite_keep 31 = .ok (.getstatic 60, 3) := by decide +kernel
theorem d_Suite_keep_34 : decode b_Suite_keep 34 = .ok (.iload_n 2, 1) := by decide +kernel
theorem d_Suite_keep_35 : decode b_Suite_keep 35 = .ok (.iaload, 1) := by decide +kernel
theorem d_Suite_keep_36 : decode b_Suite_keep 36 = .ok (.istore_n 3, 1) := by decide +kernel
theorem d_Suite_keep_37 : decode b_Suite_keep 37 = .ok (.aload_n 0, 1) := by decide +kernel
theorem d_Suite_keep_38 : decode b_Suite_keep 38 = .ok (.getfield 29, 3) := by decide +kernel
theorem d_Suite_keep_41 : decode b_Suite_keep 41 = .ok (.iload_n 3, 1) := by decide +kernel
theorem d_Suite_keep_42 : decode b_Suite_keep 42 = .ok (.invokevirtual 53, 3) := by decide +kernel
theorem d_Suite_keep_45 : decode b_Suite_keep 45 = .ok (.pop, 1) := by decide +kernel
theorem d_Suite_keep_46 : decode b_Suite_keep 46 = .ok (.aload_n 0, 1) := by decide +kernel
theorem d_Suite_keep_47 : decode b_Suite_keep 47 = .ok (.getfield 29, 3) := by decide +kernel
theorem d_Suite_keep_50 : decode b_Suite_keep 50 = .ok (.iload_n 3, 1) := by decide +kernel
theorem d_Suite_keep_51 : decode b_Suite_keep 51 = .ok (.invokevirtual 63, 3) := by decide +kernel
theorem d_Suite_keep_54 : decode b_Suite_keep 54 = .ok (.aload_n 0, 1) := by decide +kernel
theorem d_Suite_keep_55 : decode b_Suite_keep 55 = .ok (.getfield 15, 3) := by decide +kernel
theorem d_Suite_keep_58 : decode b_Suite_keep 58 = .ok (.iload_n 1, 1) := by decide +kernel
theorem d_Suite_keep_59 : decode b_Suite_keep 59 = .ok (.iload_n 3, 1) := by decide +kernel
theorem d_Suite_keep_60 : decode b_Suite_keep 60 = .ok (.iastore, 1) := by decide +kernel
theorem d_Suite_keep_61 : decode b_Suite_keep 61 = .ok (.aload_n 0, 1) := by decide +kernel
theorem d_Suite_keep_62 : decode b_Suite_keep 62 = .ok (.getfield 19, 3) := by decide +kernel
theorem d_Suite_keep_65 : decode b_Suite_keep 65 = .ok (.iload_n 1, 1) := by decide +kernel
theorem d_Suite_keep_66 : decode b_Suite_keep 66 = .ok (.aload_n 0, 1) := by decide +kernel
theorem d_Suite_keep_67 : decode b_Suite_keep 67 = .ok (.getfield 29, 3) := by decide +kernel
theorem d_Suite_keep_70 : decode b_Suite_keep 70 = .ok (.getfield 33, 3) := by decide +kernel
theorem d_Suite_keep_73 : decode b_Suite_keep 73 = .ok (.iastore, 1) := by decide +kernel
theorem d_Suite_keep_74 : decode b_Suite_keep 74 = .ok (.iconst 0, 1) := by decide +kernel
theorem d_Suite_keep_75 : decode b_Suite_keep 75 = .ok (.ireturn, 1) := by decide +kernel
theorem d_Suite_isOf_0 : decode b_Suite_isOf 0 = .ok (.aload_n 0, 1) := by decide +kernel
theorem d_Suite_isOf_1 : decode b_Suite_isOf 1 = .ok (.iload_n 1, 1) := by decide +kernel
theorem d_Suite_isOf_2 : decode b_Suite_isOf 2 = .ok (.invokevirtual 67, 3) := by decide +kernel
theorem d_Suite_isOf_5 : decode b_Suite_isOf 5 = .ok (.ifCond .eq 17, 3) := by decide +kernel
theorem d_Suite_isOf_8 : decode b_Suite_isOf 8 = .ok (.iload_n 2, 1) := by decide +kernel
theorem d_Suite_isOf_9 : decode b_Suite_isOf 9 = .ok (.invokestatic 50, 3) := by decide +kernel
theorem d_Suite_isOf_12 : decode b_Suite_isOf 12 = .ok (.ifCond .eq 10, 3) := by decide +kernel
theorem d_Suite_isOf_15 : decode b_Suite_isOf 15 = .ok (.aload_n 0, 1) := by decide +kernel
theorem d_Suite_isOf_16 : decode b_Suite_isOf 16 = .ok (.getfield 29, 3) := by decide +kernel
theorem d_Suite_isOf_19 : decode b_Suite_isOf 19 = .ok (.ifnonnull 5, 3) := by decide +kernel
theorem d_Suite_isOf_22 : decode b_Suite_isOf 22 = .ok (.iconst 0, 1) := by decide +kernel
theorem d_Suite_isOf_23 : decode b_Suite_isOf 23 = .ok (.ireturn, 1) := by decide +kernel
theorem d_Suite_isOf_24 : decode b_Suite_isOf 24 = .ok (.aload_n 0, 1) := by decide +kernel
theorem d_Suite_isOf_25 : decode b_Suite_isOf 25 = .ok (.getfield 19, 3) := by decide +kernel
theorem d_Suite_isOf_28 : decode b_Suite_isOf 28 = .ok (.iload_n 1, 1) := by decide +kernel
theorem d_Suite_isOf_29 : decode b_Suite_isOf 29 = .ok (.iaload, 1) := by decide +kernel
theorem d_Suite_isOf_30 : decode b_Suite_isOf 30 = .ok (.aload_n 0, 1) := by decide +kernel
theorem d_Suite_isOf_31 : decode b_Suite_isOf 31 = .ok (.getfield 29, 3) := by decide +kernel
theorem d_Suite_isOf_34 : decode b_Suite_isOf 34 = .ok (.getfield 33, 3) := by decide +kernel
theorem d_Suite_isOf_37 : decode b_Suite_isOf 37 = .ok (.if_icmp .ne 20, 3) := by decide +kernel
theorem d_Suite_isOf_40 : decode b_Suite_isOf 40 = .ok (.aload_n 0, 1) := by decide +kernel
theorem d_Suite_isOf_41 : decode b_Suite_isOf 41 = .ok (.getfield 15, 3) := by decide +kernel
theorem d_Suite_isOf_44 : decode b_Suite_isOf 44 = .ok (.iload_n 1, 1) := by decide +kernel
theorem d_Suite_isOf_45 : decode b_Suite_isOf 45 = .ok (.iaload, 1) := by decide +kernel
theorem d_Suite_isOf_46 : decode b_Suite_isOf 46 = .ok (.iload_n 2, 1) := by decide +kernel
theorem d_Suite_isOf_47 : decode b_Suite_isOf 47 = .ok (.invokestatic 70, 3) := by decide +kernel
theorem d_Suite_isOf_50 : decode b_Suite_isOf 50 = .ok (.ifCond .eq 7, 3) := by decide +kernel
theorem d_Suite_isOf_53 : decode b_Suite_isOf 53 = .ok (.iconst 1, 1) := by decide +kernel
theorem d_Suite_isOf_54 : decode b_Suite_isOf 54 = .ok (.goto 4, 3) := by decide +kernel
theorem d_Suite_isOf_57 : decode b_Suite_isOf 57 = .ok (.iconst 0, 1) := by decide +kernel
theorem d_Suite_isOf_58 : decode b_Suite_isOf 58 = .ok (.ireturn, 1) := by decide +kernel
theorem d_Suite_alike_0 : decode b_Suite_alike 0 = .ok (.aload_n 0, 1) := by decide +kernel
theorem d_Suite_alike_1 : decode b_Suite_alike 1 = .ok (.iload_n 1, 1) := by decide +kernel
theorem d_Suite_alike_2 : decode b_Suite_alike 2 = .ok (.invokevirtual 67, 3) := by decide +kernel
theorem d_Suite_alike_5 : decode b_Suite_alike 5 = .ok (.ifCond .eq 11, 3) := by decide +kernel
theorem d_Suite_alike_8 : decode b_Suite_alike 8 = .ok (.aload_n 0, 1) := by decide +kernel
theorem d_Suite_alike_9 : decode b_Suite_alike 9 = .ok (.iload_n 2, 1) := by decide +kernel
theorem d_Suite_alike_10 : decode b_Suite_alike 10 = .ok (.invokevirtual 67, 3) := by decide +kernel
theorem d_Suite_alike_13 : decode b_Suite_alike 13 = .ok (.ifCond .ne 5, 3) := by decide +kernel
theorem d_Suite_alike_16 : decode b_Suite_alike 16 = .ok (.iconst 0, 1) := by decide +kernel
theorem d_Suite_alike_17 : decode b_Suite_alike 17 = .ok (.ireturn, 1) := by decide +kernel
theorem d_Suite_alike_18 : decode b_Suite_alike 18 = .ok (.aload_n 0, 1) := by decide +kernel
theorem d_Suite_alike_19 : decode b_Suite_alike 19 = .ok (.getfield 15, 3) := by decide +kernel
theorem d_Suite_alike_22 : decode b_Suite_alike 22 = .ok (.iload_n 1, 1) := by decide +kernel
theorem d_Suite_alike_23 : decode b_Suite_alike 23 = .ok (.iaload, 1) := by decide +kernel
theorem d_Suite_alike_24 : decode b_Suite_alike 24 = .ok (.aload_n 0, 1) := by decide +kernel
theorem d_Suite_alike_25 : decode b_Suite_alike 25 = .ok (.getfield 15, 3) := by decide +kernel
theorem d_Suite_alike_28 : decode b_Suite_alike 28 = .ok (.iload_n 2, 1) := by decide +kernel
theorem d_Suite_alike_29 : decode b_Suite_alike 29 = .ok (.iaload, 1) := by decide +kernel
theorem d_Suite_alike_30 : decode b_Suite_alike 30 = .ok (.if_icmp .ne 22, 3) := by decide +kernel
theorem d_Suite_alike_33 : decode b_Suite_alike 33 = .ok (.aload_n 0, 1) := by decide +kernel
theorem d_Suite_alike_34 : decode b_Suite_alike 34 = .ok (.getfield 19, 3) := by decide +kernel
theorem d_Suite_alike_37 : decode b_Suite_alike 37 = .ok (.iload_n 1, 1) := by decide +kernel
theorem d_Suite_alike_38 : decode b_Suite_alike 38 = .ok (.iaload, 1) := by decide +kernel
theorem d_Suite_alike_39 : decode b_Suite_alike 39 = .ok (.aload_n 0, 1) := by decide +kernel
theorem d_Suite_alike_40 : decode b_Suite_alike 40 = .ok (.getfield 19, 3) := by decide +kernel
theorem d_Suite_alike_43 : decode b_Suite_alike 43 = .ok (.iload_n 2, 1) := by decide +kernel
theorem d_Suite_alike_44 : decode b_Suite_alike 44 = .ok (.iaload, 1) := by decide +kernel
theorem d_Suite_alike_45 : decode b_Suite_alike 45 = .ok (.if_icmp .ne 7, 3) := by decide +kernel
theorem d_Suite_alike_48 : decode b_Suite_alike 48 = .ok (.iconst 1, 1) := by decide +kernel
theorem d_Suite_alike_49 : decode b_Suite_alike 49 = .ok (.goto 4, 3) := by decide +kernel
theorem d_Suite_alike_52 : decode b_Suite_alike 52 = .ok (.iconst 0, 1) := by decide +kernel
theorem d_Suite_alike_53 : decode b_Suite_alike 53 = .ok (.ireturn, 1) := by decide +kernel
theorem d_Suite_note_0 : decode b_Suite_note 0 = .ok (.aload_n 0, 1) := by decide +kernel
theorem d_Suite_note_1 : decode b_Suite_note 1 = .ok (.getfield 29, 3) := by decide +kernel
theorem d_Suite_note_4 : decode b_Suite_note 4 = .ok (.ifnonnull 6, 3) := by decide +kernel
theorem d_Suite_note_7 : decode b_Suite_note 7 = .ok (.bipush (-2), 2) := by decide +kernel
theorem d_Suite_note_9 : decode b_Suite_note 9 = .ok (.ireturn, 1) := by decide +kernel
theorem d_Suite_note_10 : decode b_Suite_note 10 = .ok (.aload_n 0, 1) := by decide +kernel
theorem d_Suite_note_11 : decode b_Suite_note 11 = .ok (.getfield 29, 3) := by decide +kernel
theorem d_Suite_note_14 : decode b_Suite_note 14 = .ok (.iload_n 1, 1) := by decide +kernel
theorem d_Suite_note_15 : decode b_Suite_note 15 = .ok (.invokevirtual 74, 3) := by decide +kernel
theorem d_Suite_note_18 : decode b_Suite_note 18 = .ok (.ifCond .eq 15, 3) := by decide +kernel
theorem d_Suite_note_21 : decode b_Suite_note 21 = .ok (.aload_n 0, 1) := by decide +kernel
theorem d_Suite_note_22 : decode b_Suite_note 22 = .ok (.getfield 29, 3) := by decide +kernel
theorem d_Suite_note_25 : decode b_Suite_note 25 = .ok (.getfield 77, 3) := by decide +kernel
theorem d_Suite_note_28 : decode b_Suite_note 28 = .ok (.iload_n 1, 1) := by decide +kernel
theorem d_Suite_note_29 : decode b_Suite_note 29 = .ok (.iaload, 1) := by decide +kernel
theorem d_Suite_note_30 : decode b_Suite_note 30 = .ok (.goto 4, 3) := by decide +kernel
theorem d_Suite_note_33 : decode b_Suite_note 33 = .ok (.iconst (-1), 1) := by decide +kernel
theorem d_Suite_note_34 : decode b_Suite_note 34 = .ok (.ireturn, 1) := by decide +kernel
theorem d_Suite_count_0 : decode b_Suite_count 0 = .ok (.iload_n 1, 1) := by decide +kernel
theorem d_Suite_count_1 : decode b_Suite_count 1 = .ok (.ifCond .ne 8, 3) := by decide +kernel
theorem d_Suite_count_4 : decode b_Suite_count 4 = .ok (.aload_n 0, 1) := by decide +kernel
theorem d_Suite_count_5 : decode b_Suite_count 5 = .ok (.getfield 22, 3) := by decide +kernel
theorem d_Suite_count_8 : decode b_Suite_count 8 = .ok (.ireturn, 1) := by decide +kernel
theorem d_Suite_count_9 : decode b_Suite_count 9 = .ok (.iload_n 1, 1) := by decide +kernel
theorem d_Suite_count_10 : decode b_Suite_count 10 = .ok (.iconst 1, 1) := by decide +kernel
theorem d_Suite_count_11 : decode b_Suite_count 11 = .ok (.if_icmp .eq 10, 3) := by decide +kernel
theorem d_Suite_count_14 : decode b_Suite_count 14 = .ok (.iload_n 1, 1) := by decide +kernel
theorem d_Suite_count_15 : decode b_Suite_count 15 = .ok (.iconst 2, 1) := by decide +kernel
theorem d_Suite_count_16 : decode b_Suite_count 16 = .ok (.if_icmp .eq 5, 3) := by decide +kernel
theorem d_Suite_count_19 : decode b_Suite_count 19 = .ok (.iconst (-1), 1) := by decide +kernel
theorem d_Suite_count_20 : decode b_Suite_count 20 = .ok (.ireturn, 1) := by decide +kernel
theorem d_Suite_count_21 : decode b_Suite_count 21 = .ok (.aload_n 0, 1) := by decide +kernel
theorem d_Suite_count_22 : decode b_Suite_count 22 = .ok (.getfield 29, 3) := by decide +kernel
theorem d_Suite_count_25 : decode b_Suite_count 25 = .ok (.ifnonnull 6, 3) := by decide +kernel
theorem d_Suite_count_28 : decode b_Suite_count 28 = .ok (.bipush (-2), 2) := by decide +kernel
theorem d_Suite_count_30 : decode b_Suite_count 30 = .ok (.ireturn, 1) := by decide +kernel
theorem d_Suite_count_31 : decode b_Suite_count 31 = .ok (.iload_n 1, 1) := by decide +kernel
theorem d_Suite_count_32 : decode b_Suite_count 32 = .ok (.iconst 1, 1) := by decide +kernel
theorem d_Suite_count_33 : decode b_Suite_count 33 = .ok (.if_icmp .ne 13, 3) := by decide +kernel
theorem d_Suite_count_36 : decode b_Suite_count 36 = .ok (.aload_n 0, 1) := by decide +kernel
theorem d_Suite_count_37 : decode b_Suite_count 37 = .ok (.getfield 29, 3) := by decide +kernel
theorem d_Suite_count_40 : decode b_Suite_count 40 = .ok (.getfield 33, 3) := by decide +kernel
theorem d_Suite_count_43 : decode b_Suite_count 43 = .ok (.goto 10, 3) := by decide +kernel
theorem d_Suite_count_46 : decode b_Suite_count 46 = .ok (.aload_n 0, 1) := by decide +kernel
theorem d_Suite_count_47 : decode b_Suite_count 47 = .ok (.getfield 29, 3) := by decide +kernel
theorem d_Suite_count_50 : decode b_Suite_count 50 = .ok (.getfield 80, 3) := by decide +kernel
theorem d_Suite_count_53 : decode b_Suite_count 53 = .ok (.ireturn, 1) := by decide +kernel
theorem d_World_init_0 : decode b_World_init 0 = .ok (.aload_n 0, 1) := by decide +kernel
theorem d_World_init_1 : decode b_World_init 1 = .ok (.invokespecial 3, 3) := by decide +kernel
theorem d_World_init_4 : decode b_World_init 4 = .ok (.aload_n 0, 1) := by decide +kernel
theorem d_World_init_5 : decode b_World_init 5 = .ok (.bipush 64, 2) := by decide +kernel
theorem d_World_init_7 : decode b_World_init 7 = .ok (.newarray .int, 2) := by decide +kernel
theorem d_World_init_9 : decode b_World_init 9 = .ok (.putfield 11, 3) := by decide +kernel
theorem d_World_init_12 : decode b_World_init 12 = .ok (.aload_n 0, 1) := by decide +kernel
theorem d_World_init_13 : decode b_World_init 13 = .ok (.bipush 17, 2) := by decide +kernel
theorem d_World_init_15 : decode b_World_init 15 = .ok (.newarray .int, 2) := by decide +kernel
theorem d_World_init_17 : decode b_World_init 17 = .ok (.putfield 17, 3) := by decide +kernel
theorem d_World_init_20 : decode b_World_init 20 = .ok (.aload_n 0, 1) := by decide +kernel
theorem d_World_init_21 : decode b_World_init 21 = .ok (.bipush 17, 2) := by decide +kernel
theorem d_World_init_23 : decode b_World_init 23 = .ok (.newarray .int, 2) := by decide +kernel
theorem d_World_init_25 : decode b_World_init 25 = .ok (.putfield 20, 3) := by decide +kernel
theorem d_World_init_28 : decode b_World_init 28 = .ok (.aload_n 0, 1) := by decide +kernel
theorem d_World_init_29 : decode b_World_init 29 = .ok (.iload_n 1, 1) := by decide +kernel
theorem d_World_init_30 : decode b_World_init 30 = .ok (.putfield 23, 3) := by decide +kernel
theorem d_World_init_33 : decode b_World_init 33 = .ok (.aload_n 0, 1) := by decide +kernel
theorem d_World_init_34 : decode b_World_init 34 = .ok (.iload_n 2, 1) := by decide +kernel
theorem d_World_init_35 : decode b_World_init 35 = .ok (.putfield 27, 3) := by decide +kernel
theorem d_World_init_38 : decode b_World_init 38 = .ok (.return_, 1) := by decide +kernel
theorem d_Suite_init_0 : decode b_Suite_init 0 = .ok (.aload_n 0, 1) := by decide +kernel
theorem d_Suite_init_1 : decode b_Suite_init 1 = .ok (.invokespecial 1, 3) := by decide +kernel
theorem d_Suite_init_4 : decode b_Suite_init 4 = .ok (.aload_n 0, 1) := by decide +kernel
theorem d_Suite_init_5 : decode b_Suite_init 5 = .ok (.bipush 8, 2) := by decide +kernel
theorem d_Suite_init_7 : decode b_Suite_init 7 = .ok (.anewarray 9, 3) := by decide +kernel
theorem d_Suite_init_10 : decode b_Suite_init 10 = .ok (.putfield 11, 3) := by decide +kernel
theorem d_Suite_init_13 : decode b_Suite_init 13 = .ok (.aload_n 0, 1) := by decide +kernel
theorem d_Suite_init_14 : decode b_Suite_init 14 = .ok (.bipush 6, 2) := by decide +kernel
theorem d_Suite_init_16 : decode b_Suite_init 16 = .ok (.newarray .int, 2) := by decide +kernel
theorem d_Suite_init_18 : decode b_Suite_init 18 = .ok (.putfield 15, 3) := by decide +kernel
theorem d_Suite_init_21 : decode b_Suite_init 21 = .ok (.aload_n 0, 1) := by decide +kernel
theorem d_Suite_init_22 : decode b_Suite_init 22 = .ok (.bipush 6, 2) := by decide +kernel
theorem d_Suite_init_24 : decode b_Suite_init 24 = .ok (.newarray .int, 2) := by decide +kernel
theorem d_Suite_init_26 : decode b_Suite_init 26 = .ok (.putfield 19, 3) := by decide +kernel
theorem d_Suite_init_29 : decode b_Suite_init 29 = .ok (.iconst 0, 1) := by decide +kernel
theorem d_Suite_init_30 : decode b_Suite_init 30 = .ok (.istore_n 1, 1) := by decide +kernel
theorem d_Suite_init_31 : decode b_Suite_init 31 = .ok (.iload_n 1, 1) := by decide +kernel
theorem d_Suite_init_32 : decode b_Suite_init 32 = .ok (.bipush 6, 2) := by decide +kernel
theorem d_Suite_init_34 : decode b_Suite_init 34 = .ok (.if_icmp .ge 23, 3) := by decide +kernel
theorem d_Suite_init_37 : decode b_Suite_init 37 = .ok (.aload_n 0, 1) := by decide +kernel
theorem d_Suite_init_38 : decode b_Suite_init 38 = .ok (.getfield 15, 3) := by decide +kernel
theorem d_Suite_init_41 : decode b_Suite_init 41 = .ok (.iload_n 1, 1) := by decide +kernel
theorem d_Suite_init_42 : decode b_Suite_init 42 = .ok (.iconst (-1), 1) := by decide +kernel
theorem d_Suite_init_43 : decode b_Suite_init 43 = .ok (.iastore, 1) := by decide +kernel
theorem d_Suite_init_44 : decode b_Suite_init 44 = .ok (.aload_n 0, 1) := by decide +kernel
theorem d_Suite_init_45 : decode b_Suite_init 45 = .ok (.getfield 19, 3) := by decide +kernel
theorem d_Suite_init_48 : decode b_Suite_init 48 = .ok (.iload_n 1, 1) := by decide +kernel
theorem d_Suite_init_49 : decode b_Suite_init 49 = .ok (.iconst (-1), 1) := by decide +kernel
theorem d_Suite_init_50 : decode b_Suite_init 50 = .ok (.iastore, 1) := by decide +kernel
theorem d_Suite_init_51 : decode b_Suite_init 51 = .ok (.iinc 1 1, 3) := by decide +kernel
theorem d_Suite_init_54 : decode b_Suite_init 54 = .ok (.goto (-23), 3) := by decide +kernel
