theorem d_Suite_init_57 : decode b_Suite_init 57 = .ok (.return_, 1) := by decide +kernel
theorem d_Suite_begin_0 : decode b_Suite_begin 0 = .ok (.aload_n 0, 1) := by decide +kernel
theorem d_Suite_begin_1 : decode b_Suite_begin 1 = .ok (.getfield 22, 3) := by decide +kernel
theorem d_Suite_begin_4 : decode b_Suite_begin 4 = .ok (.bipush 8, 2) := by decide +kernel
theorem d_Suite_begin_6 : decode b_Suite_begin 6 = .ok (.if_icmp .lt 5, 3) := by decide +kernel
theorem d_Suite_begin_9 : decode b_Suite_begin 9 = .ok (.iconst (-1), 1) := by decide +kernel
theorem d_Suite_begin_10 : decode b_Suite_begin 10 = .ok (.ireturn, 1) := by decide +kernel
theorem d_Suite_begin_11 : decode b_Suite_begin 11 = .ok (.aload_n 0, 1) := by decide +kernel
theorem d_Suite_begin_12 : decode b_Suite_begin 12 = .ok (.new 9, 3) := by decide +kernel
theorem d_Suite_begin_15 : decode b_Suite_begin 15 = .ok (.dup, 1) := by decide +kernel
theorem d_Suite_begin_16 : decode b_Suite_begin 16 = .ok (.aload_n 0, 1) := by decide +kernel
theorem d_Suite_begin_17 : decode b_Suite_begin 17 = .ok (.getfield 22, 3) := by decide +kernel
theorem d_Suite_begin_20 : decode b_Suite_begin 20 = .ok (.iload_n 1, 1) := by decide +kernel
theorem d_Suite_begin_21 : decode b_Suite_begin 21 = .ok (.invokespecial 26, 3) := by decide +kernel
theorem d_Suite_begin_24 : decode b_Suite_begin 24 = .ok (.putfield 29, 3) := by decide +kernel
theorem d_Suite_begin_27 : decode b_Suite_begin 27 = .ok (.aload_n 0, 1) := by decide +kernel
theorem d_Suite_begin_28 : decode b_Suite_begin 28 = .ok (.getfield 11, 3) := by decide +kernel
theorem d_Suite_begin_31 : decode b_Suite_begin 31 = .ok (.aload_n 0, 1) := by decide +kernel
theorem d_Suite_begin_32 : decode b_Suite_begin 32 = .ok (.getfield 22, 3) := by decide +kernel
theorem d_Suite_begin_35 : decode b_Suite_begin 35 = .ok (.aload_n 0, 1) := by decide +kernel
theorem d_Suite_begin_36 : decode b_Suite_begin 36 = .ok (.getfield 29, 3) := by decide +kernel
theorem d_Suite_begin_39 : decode b_Suite_begin 39 = .ok (.aastore, 1) := by decide +kernel
theorem d_Suite_begin_40 : decode b_Suite_begin 40 = .ok (.aload_n 0, 1) := by decide +kernel
theorem d_Suite_begin_41 : decode b_Suite_begin 41 = .ok (.dup, 1) := by decide +kernel
theorem d_Suite_begin_42 : decode b_Suite_begin 42 = .ok (.getfield 22, 3) := by decide +kernel
theorem d_Suite_begin_45 : decode b_Suite_begin 45 = .ok (.iconst 1, 1) := by decide +kernel
theorem d_Suite_begin_46 : decode b_Suite_begin 46 = .ok (.iadd, 1) := by decide +kernel
theorem d_Suite_begin_47 : decode b_Suite_begin 47 = .ok (.putfield 22, 3) := by decide +kernel
theorem d_Suite_begin_50 : decode b_Suite_begin 50 = .ok (.aload_n 0, 1) := by decide +kernel
theorem d_Suite_begin_51 : decode b_Suite_begin 51 = .ok (.getfield 29, 3) := by decide +kernel
theorem d_Suite_begin_54 : decode b_Suite_begin 54 = .ok (.getfield 33, 3) := by decide +kernel
theorem d_Suite_begin_57 : decode b_Suite_begin 57 = .ok (.ireturn, 1) := by decide +kernel
theorem d_Suite_enter_0 : decode b_Suite_enter 0 = .ok (.iload_n 1, 1) := by decide +kernel
theorem d_Suite_enter_1 : decode b_Suite_enter 1 = .ok (.ifCond .lt 11, 3) := by decide +kernel
theorem d_Suite_enter_4 : decode b_Suite_enter 4 = .ok (.iload_n 1, 1) := by decide +kernel
theorem d_Suite_enter_5 : decode b_Suite_enter 5 = .ok (.aload_n 0, 1) := by decide +kernel
theorem d_Suite_enter_6 : decode b_Suite_enter 6 = .ok (.getfield 22, 3) := by decide +kernel
theorem d_Suite_enter_9 : decode b_Suite_enter 9 = .ok (.if_icmp .lt 5, 3) := by decide +kernel
theorem d_Suite_enter_12 : decode b_Suite_enter 12 = .ok (.iconst (-1), 1) := by decide +kernel
theorem d_Suite_enter_13 : decode b_Suite_enter 13 = .ok (.ireturn, 1) := by decide +kernel
theorem d_Suite_enter_14 : decode b_Suite_enter 14 = .ok (.aload_n 0, 1) := by decide +kernel
theorem d_Suite_enter_15 : decode b_Suite_enter 15 = .ok (.aload_n 0, 1) := by decide +kernel
theorem d_Suite_enter_16 : decode b_Suite_enter 16 = .ok (.getfield 11, 3) := by decide +kernel
theorem d_Suite_enter_19 : decode b_Suite_enter 19 = .ok (.iload_n 1, 1) := by decide +kernel
theorem d_Suite_enter_20 : decode b_Suite_enter 20 = .ok (.aaload, 1) := by decide +kernel
theorem d_Suite_enter_21 : decode b_Suite_enter 21 = .ok (.putfield 29, 3) := by decide +kernel
theorem d_Suite_enter_24 : decode b_Suite_enter 24 = .ok (.iconst 0, 1) := by decide +kernel
theorem d_Suite_enter_25 : decode b_Suite_enter 25 = .ok (.ireturn, 1) := by decide +kernel
