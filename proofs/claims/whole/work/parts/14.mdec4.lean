theorem d_Model_note_10 : decode b_Model_note 10 = .ok (.iload_n 1, 1) := by decide +kernel
theorem d_Model_note_11 : decode b_Model_note 11 = .ok (.bipush 64, 2) := by decide +kernel
theorem d_Model_note_13 : decode b_Model_note 13 = .ok (.invokestatic 54, 3) := by decide +kernel
theorem d_Model_note_16 : decode b_Model_note 16 = .ok (.ifCond .eq 33, 3) := by decide +kernel
theorem d_Model_note_19 : decode b_Model_note 19 = .ok (.iload_n 1, 1) := by decide +kernel
theorem d_Model_note_20 : decode b_Model_note 20 = .ok (.aload_n 0, 1) := by decide +kernel
theorem d_Model_note_21 : decode b_Model_note 21 = .ok (.getfield 31, 3) := by decide +kernel
theorem d_Model_note_24 : decode b_Model_note 24 = .ok (.aload_n 0, 1) := by decide +kernel
theorem d_Model_note_25 : decode b_Model_note 25 = .ok (.getfield 41, 3) := by decide +kernel
theorem d_Model_note_28 : decode b_Model_note 28 = .ok (.iaload, 1) := by decide +kernel
theorem d_Model_note_29 : decode b_Model_note 29 = .ok (.if_icmp .ge 20, 3) := by decide +kernel
theorem d_Model_note_32 : decode b_Model_note 32 = .ok (.aload_n 0, 1) := by decide +kernel
theorem d_Model_note_33 : decode b_Model_note 33 = .ok (.getfield 28, 3) := by decide +kernel
theorem d_Model_note_36 : decode b_Model_note 36 = .ok (.aload_n 0, 1) := by decide +kernel
theorem d_Model_note_37 : decode b_Model_note 37 = .ok (.getfield 41, 3) := by decide +kernel
theorem d_Model_note_40 : decode b_Model_note 40 = .ok (.bipush 64, 2) := by decide +kernel
theorem d_Model_note_42 : decode b_Model_note 42 = .ok (.imul, 1) := by decide +kernel
theorem d_Model_note_43 : decode b_Model_note 43 = .ok (.iload_n 1, 1) := by decide +kernel
theorem d_Model_note_44 : decode b_Model_note 44 = .ok (.iadd, 1) := by decide +kernel
theorem d_Model_note_45 : decode b_Model_note 45 = .ok (.iaload, 1) := by decide +kernel
theorem d_Model_note_46 : decode b_Model_note 46 = .ok (.goto 4, 3) := by decide +kernel
theorem d_Model_note_49 : decode b_Model_note 49 = .ok (.iconst (-1), 1) := by decide +kernel
theorem d_Model_note_50 : decode b_Model_note 50 = .ok (.ireturn, 1) := by decide +kernel
theorem d_Model_count_0 : decode b_Model_count 0 = .ok (.iload_n 1, 1) := by decide +kernel
theorem d_Model_count_1 : decode b_Model_count 1 = .ok (.iconst 3, 1) := by decide +kernel
theorem d_Model_count_2 : decode b_Model_count 2 = .ok (.invokestatic 54, 3) := by decide +kernel
theorem d_Model_count_5 : decode b_Model_count 5 = .ok (.ifCond .ne 5, 3) := by decide +kernel
theorem d_Model_count_8 : decode b_Model_count 8 = .ok (.iconst (-1), 1) := by decide +kernel
theorem d_Model_count_9 : decode b_Model_count 9 = .ok (.ireturn, 1) := by decide +kernel
theorem d_Model_count_10 : decode b_Model_count 10 = .ok (.iload_n 1, 1) := by decide +kernel
theorem d_Model_count_11 : decode b_Model_count 11 = .ok (.ifCond .ne 8, 3) := by decide +kernel
theorem d_Model_count_14 : decode b_Model_count 14 = .ok (.aload_n 0, 1) := by decide +kernel
theorem d_Model_count_15 : decode b_Model_count 15 = .ok (.getfield 51, 3) := by decide +kernel
theorem d_Model_count_18 : decode b_Model_count 18 = .ok (.ireturn, 1) := by decide +kernel
theorem d_Model_count_19 : decode b_Model_count 19 = .ok (.aload_n 0, 1) := by decide +kernel
theorem d_Model_count_20 : decode b_Model_count 20 = .ok (.getfield 41, 3) := by decide +kernel
theorem d_Model_count_23 : decode b_Model_count 23 = .ok (.ifCond .ge 8, 3) := by decide +kernel
theorem d_Model_count_26 : decode b_Model_count 26 = .ok (.bipush (-2), 2) := by decide +kernel
theorem d_Model_count_28 : decode b_Model_count 28 = .ok (.goto 24, 3) := by decide +kernel
theorem d_Model_count_31 : decode b_Model_count 31 = .ok (.iload_n 1, 1) := by decide +kernel
theorem d_Model_count_32 : decode b_Model_count 32 = .ok (.iconst 1, 1) := by decide +kernel
theorem d_Model_count_33 : decode b_Model_count 33 = .ok (.if_icmp .ne 10, 3) := by decide +kernel
theorem d_Model_count_36 : decode b_Model_count 36 = .ok (.aload_n 0, 1) := by decide +kernel
theorem d_Model_count_37 : decode b_Model_count 37 = .ok (.getfield 41, 3) := by decide +kernel
theorem d_Model_count_40 : decode b_Model_count 40 = .ok (.goto 12, 3) := by decide +kernel
theorem d_Model_count_43 : decode b_Model_count 43 = .ok (.aload_n 0, 1) := by decide +kernel
theorem d_Model_count_44 : decode b_Model_count 44 = .ok (.getfield 31, 3) := by decide +kernel
theorem d_Model_count_47 : decode b_Model_count 47 = .ok (.aload_n 0, 1) := by decide +kernel
theorem d_Model_count_48 : decode b_Model_count 48 = .ok (.getfield 41, 3) := by decide +kernel
theorem d_Model_count_51 : decode b_Model_count 51 = .ok (.iaload, 1) := by decide +kernel
theorem d_Model_count_52 : decode b_Model_count 52 = .ok (.ireturn, 1) := by decide +kernel
theorem d_Model_asked_0 : decode b_Model_asked 0 = .ok (.bipush 30, 2) := by decide +kernel
theorem d_Model_asked_2 : decode b_Model_asked 2 = .ok (.newarray .int, 2) := by decide +kernel
theorem d_Model_asked_4 : decode b_Model_asked 4 = .ok (.dup, 1) := by decide +kernel
theorem d_Model_asked_5 : decode b_Model_asked 5 = .ok (.iconst 0, 1) := by decide +kernel
theorem d_Model_asked_6 : decode b_Model_asked 6 = .ok (.iconst 0, 1) := by decide +kernel
theorem d_Model_asked_7 : decode b_Model_asked 7 = .ok (.iastore, 1) := by decide +kernel
theorem d_Model_asked_8 : decode b_Model_asked 8 = .ok (.dup, 1) := by decide +kernel
theorem d_Model_asked_9 : decode b_Model_asked 9 = .ok (.iconst 1, 1) := by decide +kernel
theorem d_Model_asked_10 : decode b_Model_asked 10 = .ok (.iconst 0, 1) := by decide +kernel
theorem d_Model_asked_11 : decode b_Model_asked 11 = .ok (.iastore, 1) := by decide +kernel
theorem d_Model_asked_12 : decode b_Model_asked 12 = .ok (.dup, 1) := by decide +kernel
theorem d_Model_asked_13 : decode b_Model_asked 13 = .ok (.iconst 2, 1) := by decide +kernel
theorem d_Model_asked_14 : decode b_Model_asked 14 = .ok (.iconst 1, 1) := by decide +kernel
theorem d_Model_asked_15 : decode b_Model_asked 15 = .ok (.iastore, 1) := by decide +kernel
theorem d_Model_asked_16 : decode b_Model_asked 16 = .ok (.dup, 1) := by decide +kernel
theorem d_Model_asked_17 : decode b_Model_asked 17 = .ok (.iconst 3, 1) := by decide +kernel
theorem d_Model_asked_18 : decode b_Model_asked 18 = .ok (.iconst (-1), 1) := by decide +kernel
theorem d_Model_asked_19 : decode b_Model_asked 19 = .ok (.iastore, 1) := by decide +kernel
theorem d_Model_asked_20 : decode b_Model_asked 20 = .ok (.dup, 1) := by decide +kernel
theorem d_Model_asked_21 : decode b_Model_asked 21 = .ok (.iconst 4, 1) := by decide +kernel
theorem d_Model_asked_22 : decode b_Model_asked 22 = .ok (.iconst 2, 1) := by decide +kernel
theorem d_Model_asked_23 : decode b_Model_asked 23 = .ok (.iastore, 1) := by decide +kernel
theorem d_Model_asked_24 : decode b_Model_asked 24 = .ok (.dup, 1) := by decide +kernel
theorem d_Model_asked_25 : decode b_Model_asked 25 = .ok (.iconst 5, 1) := by decide +kernel
theorem d_Model_asked_26 : decode b_Model_asked 26 = .ok (.iconst (-1), 1) := by decide +kernel
theorem d_Model_asked_27 : decode b_Model_asked 27 = .ok (.iastore, 1) := by decide +kernel
theorem d_Model_asked_28 : decode b_Model_asked 28 = .ok (.dup, 1) := by decide +kernel
theorem d_Model_asked_29 : decode b_Model_asked 29 = .ok (.bipush 6, 2) := by decide +kernel
theorem d_Model_asked_31 : decode b_Model_asked 31 = .ok (.iconst (-1), 1) := by decide +kernel
theorem d_Model_asked_32 : decode b_Model_asked 32 = .ok (.iastore, 1) := by decide +kernel
theorem d_Model_asked_33 : decode b_Model_asked 33 = .ok (.dup, 1) := by decide +kernel
theorem d_Model_asked_34 : decode b_Model_asked 34 = .ok (.bipush 7, 2) := by decide +kernel
theorem d_Model_asked_36 : decode b_Model_asked 36 = .ok (.iconst 3, 1) := by decide +kernel
theorem d_Model_asked_37 : decode b_Model_asked 37 = .ok (.iastore, 1) := by decide +kernel
theorem d_Model_asked_38 : decode b_Model_asked 38 = .ok (.dup, 1) := by decide +kernel
theorem d_Model_asked_39 : decode b_Model_asked 39 = .ok (.bipush 8, 2) := by decide +kernel
theorem d_Model_asked_41 : decode b_Model_asked 41 = .ok (.iconst 3, 1) := by decide +kernel
theorem d_Model_asked_42 : decode b_Model_asked 42 = .ok (.iastore, 1) := by decide +kernel
theorem d_Model_asked_43 : decode b_Model_asked 43 = .ok (.dup, 1) := by decide +kernel
theorem d_Model_asked_44 : decode b_Model_asked 44 = .ok (.bipush 9, 2) := by decide +kernel
theorem d_Model_asked_46 : decode b_Model_asked 46 = .ok (.iconst 4, 1) := by decide +kernel
theorem d_Model_asked_47 : decode b_Model_asked 47 = .ok (.iastore, 1) := by decide +kernel
theorem d_Model_asked_48 : decode b_Model_asked 48 = .ok (.dup, 1) := by decide +kernel
theorem d_Model_asked_49 : decode b_Model_asked 49 = .ok (.bipush 10, 2) := by decide +kernel
theorem d_Model_asked_51 : decode b_Model_asked 51 = .ok (.bipush 7, 2) := by decide +kernel
theorem d_Model_asked_53 : decode b_Model_asked 53 = .ok (.iastore, 1) := by decide +kernel
theorem d_Model_asked_54 : decode b_Model_asked 54 = .ok (.dup, 1) := by decide +kernel
theorem d_Model_asked_55 : decode b_Model_asked 55 = .ok (.bipush 11, 2) := by decide +kernel
theorem d_Model_asked_57 : decode b_Model_asked 57 = .ok (.bipush 6, 2) := by decide +kernel
theorem d_Model_asked_59 : decode b_Model_asked 59 = .ok (.iastore, 1) := by decide +kernel
theorem d_Model_asked_60 : decode b_Model_asked 60 = .ok (.dup, 1) := by decide +kernel
theorem d_Model_asked_61 : decode b_Model_asked 61 = .ok (.bipush 12, 2) := by decide +kernel
theorem d_Model_asked_63 : decode b_Model_asked 63 = .ok (.bipush 8, 2) := by decide +kernel
theorem d_Model_asked_65 : decode b_Model_asked 65 = .ok (.iastore, 1) := by decide +kernel
theorem d_Model_asked_66 : decode b_Model_asked 66 = .ok (.dup, 1) := by decide +kernel
theorem d_Model_asked_67 : decode b_Model_asked 67 = .ok (.bipush 13, 2) := by decide +kernel
theorem d_Model_asked_69 : decode b_Model_asked 69 = .ok (.iconst (-1), 1) := by decide +kernel
theorem d_Model_asked_70 : decode b_Model_asked 70 = .ok (.iastore, 1) := by decide +kernel
theorem d_Model_asked_71 : decode b_Model_asked 71 = .ok (.dup, 1) := by decide +kernel
theorem d_Model_asked_72 : decode b_Model_asked 72 = .ok (.bipush 14, 2) := by decide +kernel
theorem d_Model_asked_74 : decode b_Model_asked 74 = .ok (.bipush 9, 2) := by decide +kernel
theorem d_Model_asked_76 : decode b_Model_asked 76 = .ok (.iastore, 1) := by decide +kernel
theorem d_Model_asked_77 : decode b_Model_asked 77 = .ok (.dup, 1) := by decide +kernel
theorem d_Model_asked_78 : decode b_Model_asked 78 = .ok (.bipush 15, 2) := by decide +kernel
theorem d_Model_asked_80 : decode b_Model_asked 80 = .ok (.bipush 9, 2) := by decide +kernel
theorem d_Model_asked_82 : decode b_Model_asked 82 = .ok (.iastore, 1) := by decide +kernel
theorem d_Model_asked_83 : decode b_Model_asked 83 = .ok (.dup, 1) := by decide +kernel
theorem d_Model_asked_84 : decode b_Model_asked 84 = .ok (.bipush 16, 2) := by decide +kernel
theorem d_Model_asked_86 : decode b_Model_asked 86 = .ok (.bipush 10, 2) := by decide +kernel
theorem d_Model_asked_88 : decode b_Model_asked 88 = .ok (.iastore, 1) := by decide +kernel
theorem d_Model_asked_89 : decode b_Model_asked 89 = .ok (.dup, 1) := by decide +kernel
theorem d_Model_asked_90 : decode b_Model_asked 90 = .ok (.bipush 17, 2) := by decide +kernel
theorem d_Model_asked_92 : decode b_Model_asked 92 = .ok (.bipush 11, 2) := by decide +kernel
theorem d_Model_asked_94 : decode b_Model_asked 94 = .ok (.iastore, 1) := by decide +kernel
theorem d_Model_asked_95 : decode b_Model_asked 95 = .ok (.dup, 1) := by decide +kernel
theorem d_Model_asked_96 : decode b_Model_asked 96 = .ok (.bipush 18, 2) := by decide +kernel
theorem d_Model_asked_98 : decode b_Model_asked 98 = .ok (.bipush 12, 2) := by decide +kernel
theorem d_Model_asked_100 : decode b_Model_asked 100 = .ok (.iastore, 1) := by decide +kernel
theorem d_Model_asked_101 : decode b_Model_asked 101 = .ok (.dup, 1) := by decide +kernel
theorem d_Model_asked_102 : decode b_Model_asked 102 = .ok (.bipush 19, 2) := by decide +kernel
theorem d_Model_asked_104 : decode b_Model_asked 104 = .ok (.bipush 14, 2) := by decide +kernel
theorem d_Model_asked_106 : decode b_Model_asked 106 = .ok (.iastore, 1) := by decide +kernel
theorem d_Model_asked_107 : decode b_Model_asked 107 = .ok (.dup, 1) := by decide +kernel
theorem d_Model_asked_108 : decode b_Model_asked 108 = .ok (.bipush 20, 2) := by decide +kernel
theorem d_Model_asked_110 : decode b_Model_asked 110 = .ok (.bipush 14, 2) := by decide +kernel
theorem d_Model_asked_112 : decode b_Model_asked 112 = .ok (.iastore, 1) := by decide +kernel
theorem d_Model_asked_113 : decode b_Model_asked 113 = .ok (.dup, 1) := by decide +kernel
theorem d_Model_asked_114 : decode b_Model_asked 114 = .ok (.bipush 21, 2) := by decide +kernel
theorem d_Model_asked_116 : decode b_Model_asked 116 = .ok (.bipush 15, 2) := by decide +kernel
theorem d_Model_asked_118 : decode b_Model_asked 118 = .ok (.iastore, 1) := by decide +kernel
theorem d_Model_asked_119 : decode b_Model_asked 119 = .ok (.dup, 1) := by decide +kernel
theorem d_Model_asked_120 : decode b_Model_asked 120 = .ok (.bipush 22, 2) := by decide +kernel
theorem d_Model_asked_122 : decode b_Model_asked 122 = .ok (.bipush 16, 2) := by decide +kernel
theorem d_Model_asked_124 : decode b_Model_asked 124 = .ok (.iastore, 1) := by decide +kernel
theorem d_Model_asked_125 : decode b_Model_asked 125 = .ok (.dup, 1) := by decide +kernel
theorem d_Model_asked_126 : decode b_Model_asked 126 = .ok (.bipush 23, 2) := by decide +kernel
theorem d_Model_asked_128 : decode b_Model_asked 128 = .ok (.iconst (-1), 1) := by decide +kernel
theorem d_Model_asked_129 : decode b_Model_asked 129 = .ok (.iastore, 1) := by decide +kernel
theorem d_Model_asked_130 : decode b_Model_asked 130 = .ok (.dup, 1) := by decide +kernel
theorem d_Model_asked_131 : decode b_Model_asked 131 = .ok (.bipush 24, 2) := by decide +kernel
theorem d_Model_asked_133 : decode b_Model_asked 133 = .ok (.iconst 1, 1) := by decide +kernel
theorem d_Model_asked_134 : decode b_Model_asked 134 = .ok (.iastore, 1) := by decide +kernel
theorem d_Model_asked_135 : decode b_Model_asked 135 = .ok (.dup, 1) := by decide +kernel
theorem d_Model_asked_136 : decode b_Model_asked 136 = .ok (.bipush 25, 2) := by decide +kernel
theorem d_Model_asked_138 : decode b_Model_asked 138 = .ok (.iconst (-1), 1) := by decide +kernel
theorem d_Model_asked_139 : decode b_Model_asked 139 = .ok (.iastore, 1) := by decide +kernel
theorem d_Model_asked_140 : decode b_Model_asked 140 = .ok (.dup, 1) := by decide +kernel
theorem d_Model_asked_141 : decode b_Model_asked 141 = .ok (.bipush 26, 2) := by decide +kernel
theorem d_Model_asked_143 : decode b_Model_asked 143 = .ok (.iconst 2, 1) := by decide +kernel
theorem d_Model_asked_144 : decode b_Model_asked 144 = .ok (.iastore, 1) := by decide +kernel
theorem d_Model_asked_145 : decode b_Model_asked 145 = .ok (.dup, 1) := by decide +kernel
theorem d_Model_asked_146 : decode b_Model_asked 146 = .ok (.bipush 27, 2) := by decide +kernel
theorem d_Model_asked_148 : decode b_Model_asked 148 = .ok (.iconst 1, 1) := by decide +kernel
theorem d_Model_asked_149 : decode b_Model_asked 149 = .ok (.iastore, 1) := by decide +kernel
theorem d_Model_asked_150 : decode b_Model_asked 150 = .ok (.dup, 1) := by decide +kernel
theorem d_Model_asked_151 : decode b_Model_asked 151 = .ok (.bipush 28, 2) := by decide +kernel
theorem d_Model_asked_153 : decode b_Model_asked 153 = .ok (.iconst 5, 1) := by decide +kernel
theorem d_Model_asked_154 : decode b_Model_asked 154 = .ok (.iastore, 1) := by decide +kernel
theorem d_Model_asked_155 : decode b_Model_asked 155 = .ok (.dup, 1) := by decide +kernel
theorem d_Model_asked_156 : decode b_Model_asked 156 = .ok (.bipush 29, 2) := by decide +kernel
theorem d_Model_asked_158 : decode b_Model_asked 158 = .ok (.bipush 14, 2) := by decide +kernel
theorem d_Model_asked_160 : decode b_Model_asked 160 = .ok (.iastore, 1) := by decide +kernel
theorem d_Model_asked_161 : decode b_Model_asked 161 = .ok (.astore_n 1, 1) := by decide +kernel
theorem d_Model_asked_162 : decode b_Model_asked 162 = .ok (.aload_n 1, 1) := by decide +kernel
theorem d_Model_asked_163 : decode b_Model_asked 163 = .ok (.iload_n 0, 1) := by decide +kernel
theorem d_Model_asked_164 : decode b_Model_asked 164 = .ok (.iaload, 1) := by decide +kernel
theorem d_Model_asked_165 : decode b_Model_asked 165 = .ok (.ireturn, 1) := by decide +kernel
theorem d_Model_act_0 : decode b_Model_act 0 = .ok (.iload_n 1, 1) := by decide +kernel
theorem d_Model_act_1 : decode b_Model_act 1 = .ok (.bipush 30, 2) := by decide +kernel
theorem d_Model_act_3 : decode b_Model_act 3 = .ok (.invokestatic 54, 3) := by decide +kernel
theorem d_Model_act_6 : decode b_Model_act 6 = .ok (.ifCond .ne 5, 3) := by decide +kernel
theorem d_Model_act_9 : decode b_Model_act 9 = .ok (.iconst (-1), 1) := by decide +kernel
theorem d_Model_act_10 : decode b_Model_act 10 = .ok (.ireturn, 1) := by decide +kernel
theorem d_Model_act_11 : decode b_Model_act 11 = .ok (.aload_n 0, 1) := by decide +kernel
theorem d_Model_act_12 : decode b_Model_act 12 = .ok (.getfield 41, 3) := by decide +kernel
theorem d_Model_act_15 : decode b_Model_act 15 = .ok (.ifCond .ge 6, 3) := by decide +kernel
theorem d_Model_act_18 : decode b_Model_act 18 = .ok (.bipush (-2), 2) := by decide +kernel
theorem d_Model_act_20 : decode b_Model_act 20 = .ok (.ireturn, 1) := by decide +kernel
theorem d_Model_act_21 : decode b_Model_act 21 = .ok (.iload_n 1, 1) := by decide +kernel
theorem d_Model_act_22 : decode b_Model_act 22 = .ok (.invokestatic 112, 3) := by decide +kernel
theorem d_Model_act_25 : decode b_Model_act 25 = .ok (.istore_n 3, 1) := by decide +kernel
theorem d_Model_act_26 : decode b_Model_act 26 = .ok (.iload_n 3, 1) := by decide +kernel
theorem d_Model_act_27 : decode b_Model_act 27 = .ok (.ifCond .ge 7, 3) := by decide +kernel
theorem d_Model_act_30 : decode b_Model_act 30 = .ok (.iconst 0, 1) := by decide +kernel
theorem d_Model_act_31 : decode b_Model_act 31 = .ok (.goto 8, 3) := by decide +kernel
theorem d_Model_act_34 : decode b_Model_act 34 = .ok (.aload_n 0, 1) := by decide +kernel
theorem d_Model_act_35 : decode b_Model_act 35 = .ok (.iload_n 3, 1) := by decide +kernel
theorem d_Model_act_36 : decode b_Model_act 36 = .ok (.invokevirtual 108, 3) := by decide +kernel
theorem d_Model_act_39 : decode b_Model_act 39 = .ok (.istore 4, 2) := by decide +kernel
theorem d_Model_act_41 : decode b_Model_act 41 = .ok (.iload 4, 2) := by decide +kernel
theorem d_Model_act_43 : decode b_Model_act 43 = .ok (.ifCond .ge 6, 3) := by decide +kernel
theorem d_Model_act_46 : decode b_Model_act 46 = .ok (.iload 4, 2) := by decide +kernel
theorem d_Model_act_48 : decode b_Model_act 48 = .ok (.ireturn, 1) := by decide +kernel
theorem d_Model_act_49 : decode b_Model_act 49 = .ok (.iload_n 2, 1) := by decide +kernel
theorem d_Model_act_50 : decode b_Model_act 50 = .ok (.iconst 1, 1) := by decide +kernel
theorem d_Model_act_51 : decode b_Model_act 51 = .ok (.iand, 1) := by decide +kernel
theorem d_Model_act_52 : decode b_Model_act 52 = .ok (.ifCond .eq 7, 3) := by decide +kernel
theorem d_Model_act_55 : decode b_Model_act 55 = .ok (.iconst 1, 1) := by decide +kernel
theorem d_Model_act_56 : decode b_Model_act 56 = .ok (.goto 4, 3) := by decide +kernel
theorem d_Model_act_59 : decode b_Model_act 59 = .ok (.iconst 0, 1) := by decide +kernel
theorem d_Model_act_60 : decode b_Model_act 60 = .ok (.istore 5, 2) := by decide +kernel
theorem d_Model_act_62 : decode b_Model_act 62 = .ok (.iload_n 1, 1) := by decide +kernel
theorem d_Model_act_63 : decode b_Model_act 63 = .ok (.tableswitch 350 0 28 #[129, 152, 162, 174, 177, 180, 182, 184, 184, 186, 195, 197, 350, 200, 350, 350, 203, 213, 223, 230, 245, 256, 283, 315, 318, 328, 341, 318, 348], 129) := by decide +kernel
theorem d_Model_act_192 : decode b_Model_act 192 = .ok (.aload_n 0, 1) := by decide +kernel
theorem d_Model_act_193 : decode b_Model_act 193 = .ok (.getfield 13, 3) := by decide +kernel
theorem d_Model_act_196 : decode b_Model_act 196 = .ok (.aload_n 0, 1) := by decide +kernel
theorem d_Model_act_197 : decode b_Model_act 197 = .ok (.getfield 41, 3) := by decide +kernel
theorem d_Model_act_200 : decode b_Model_act 200 = .ok (.dup2, 1) := by decide +kernel
theorem d_Model_act_201 : decode b_Model_act 201 = .ok (.iaload, 1) := by decide +kernel
theorem d_Model_act_202 : decode b_Model_act 202 = .ok (.iload_n 2, 1) := by decide +kernel
theorem d_Model_act_203 : decode b_Model_act 203 = .ok (.iadd, 1) := by decide +kernel
theorem d_Model_act_204 : decode b_Model_act 204 = .ok (.iastore, 1) := by decide +kernel
theorem d_Model_act_205 : decode b_Model_act 205 = .ok (.aload_n 0, 1) := by decide +kernel
theorem d_Model_act_206 : decode b_Model_act 206 = .ok (.getfield 13, 3) := by decide +kernel
theorem d_Model_act_209 : decode b_Model_act 209 = .ok (.aload_n 0, 1) := by decide +kernel
theorem d_Model_act_210 : decode b_Model_act 210 = .ok (.getfield 41, 3) := by decide +kernel
theorem d_Model_act_213 : decode b_Model_act 213 = .ok (.iaload, 1) := by decide +kernel
theorem d_Model_act_214 : decode b_Model_act 214 = .ok (.ireturn, 1) := by decide +kernel
theorem d_Model_act_215 : decode b_Model_act 215 = .ok (.aload_n 0, 1) := by decide +kernel
theorem d_Model_act_216 : decode b_Model_act 216 = .ok (.getfield 13, 3) := by decide +kernel
theorem d_Model_act_219 : decode b_Model_act 219 = .ok (.aload_n 0, 1) := by decide +kernel
theorem d_Model_act_220 : decode b_Model_act 220 = .ok (.getfield 41, 3) := by decide +kernel
theorem d_Model_act_223 : decode b_Model_act 223 = .ok (.iaload, 1) := by decide +kernel
theorem d_Model_act_224 : decode b_Model_act 224 = .ok (.ireturn, 1) := by decide +kernel
theorem d_Model_act_225 : decode b_Model_act 225 = .ok (.aload_n 0, 1) := by decide +kernel
theorem d_Model_act_226 : decode b_Model_act 226 = .ok (.getfield 16, 3) := by decide +kernel
theorem d_Model_act_229 : decode b_Model_act 229 = .ok (.aload_n 0, 1) := by decide +kernel
theorem d_Model_act_230 : decode b_Model_act 230 = .ok (.getfield 41, 3) := by decide +kernel
theorem d_Model_act_233 : decode b_Model_act 233 = .ok (.iload_n 2, 1) := by decide +kernel
