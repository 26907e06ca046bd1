theorem d_Model_initCircle_31 : decode b_Model_initCircle 31 = .ok (.invokevirtual 58, 3) := by decide +kernel
theorem d_Model_initCircle_34 : decode b_Model_initCircle 34 = .ok (.ifCond .eq 62, 3) := by decide +kernel
theorem d_Model_initCircle_37 : decode b_Model_initCircle 37 = .ok (.aload_n 0, 1) := by decide +kernel
theorem d_Model_initCircle_38 : decode b_Model_initCircle 38 = .ok (.iload_n 1, 1) := by decide +kernel
theorem d_Model_initCircle_39 : decode b_Model_initCircle 39 = .ok (.ifCond .eq 8, 3) := by decide +kernel
theorem d_Model_initCircle_42 : decode b_Model_initCircle 42 = .ok (.bipush 40, 2) := by decide +kernel
theorem d_Model_initCircle_44 : decode b_Model_initCircle 44 = .ok (.goto 5, 3) := by decide +kernel
theorem d_Model_initCircle_47 : decode b_Model_initCircle 47 = .ok (.bipush 30, 2) := by decide +kernel
theorem d_Model_initCircle_49 : decode b_Model_initCircle 49 = .ok (.invokevirtual 62, 3) := by decide +kernel
theorem d_Model_initCircle_52 : decode b_Model_initCircle 52 = .ok (.iload_n 1, 1) := by decide +kernel
theorem d_Model_initCircle_53 : decode b_Model_initCircle 53 = .ok (.ifCond .eq 17, 3) := by decide +kernel
theorem d_Model_initCircle_56 : decode b_Model_initCircle 56 = .ok (.aload_n 0, 1) := by decide +kernel
theorem d_Model_initCircle_57 : decode b_Model_initCircle 57 = .ok (.getfield 22, 3) := by decide +kernel
theorem d_Model_initCircle_60 : decode b_Model_initCircle 60 = .ok (.aload_n 0, 1) := by decide +kernel
theorem d_Model_initCircle_61 : decode b_Model_initCircle 61 = .ok (.getfield 41, 3) := by decide +kernel
theorem d_Model_initCircle_64 : decode b_Model_initCircle 64 = .ok (.bipush 40, 2) := by decide +kernel
theorem d_Model_initCircle_66 : decode b_Model_initCircle 66 = .ok (.iastore, 1) := by decide +kernel
theorem d_Model_initCircle_67 : decode b_Model_initCircle 67 = .ok (.goto 14, 3) := by decide +kernel
theorem d_Model_initCircle_70 : decode b_Model_initCircle 70 = .ok (.aload_n 0, 1) := by decide +kernel
theorem d_Model_initCircle_71 : decode b_Model_initCircle 71 = .ok (.getfield 19, 3) := by decide +kernel
theorem d_Model_initCircle_74 : decode b_Model_initCircle 74 = .ok (.aload_n 0, 1) := by decide +kernel
theorem d_Model_initCircle_75 : decode b_Model_initCircle 75 = .ok (.getfield 41, 3) := by decide +kernel
theorem d_Model_initCircle_78 : decode b_Model_initCircle 78 = .ok (.bipush 30, 2) := by decide +kernel
theorem d_Model_initCircle_80 : decode b_Model_initCircle 80 = .ok (.iastore, 1) := by decide +kernel
theorem d_Model_initCircle_81 : decode b_Model_initCircle 81 = .ok (.aload_n 0, 1) := by decide +kernel
theorem d_Model_initCircle_82 : decode b_Model_initCircle 82 = .ok (.iload_n 1, 1) := by decide +kernel
theorem d_Model_initCircle_83 : decode b_Model_initCircle 83 = .ok (.ifCond .eq 8, 3) := by decide +kernel
theorem d_Model_initCircle_86 : decode b_Model_initCircle 86 = .ok (.bipush 11, 2) := by decide +kernel
theorem d_Model_initCircle_88 : decode b_Model_initCircle 88 = .ok (.goto 5, 3) := by decide +kernel
theorem d_Model_initCircle_91 : decode b_Model_initCircle 91 = .ok (.bipush 10, 2) := by decide +kernel
theorem d_Model_initCircle_93 : decode b_Model_initCircle 93 = .ok (.invokevirtual 66, 3) := by decide +kernel
theorem d_Model_initCircle_96 : decode b_Model_initCircle 96 = .ok (.aload_n 0, 1) := by decide +kernel
theorem d_Model_initCircle_97 : decode b_Model_initCircle 97 = .ok (.iload_n 1, 1) := by decide +kernel
theorem d_Model_initCircle_98 : decode b_Model_initCircle 98 = .ok (.ifCond .eq 8, 3) := by decide +kernel
theorem d_Model_initCircle_101 : decode b_Model_initCircle 101 = .ok (.bipush 30, 2) := by decide +kernel
theorem d_Model_initCircle_103 : decode b_Model_initCircle 103 = .ok (.goto 5, 3) := by decide +kernel
theorem d_Model_initCircle_106 : decode b_Model_initCircle 106 = .ok (.bipush 40, 2) := by decide +kernel
theorem d_Model_initCircle_108 : decode b_Model_initCircle 108 = .ok (.invokevirtual 62, 3) := by decide +kernel
theorem d_Model_initCircle_111 : decode b_Model_initCircle 111 = .ok (.iload_n 1, 1) := by decide +kernel
theorem d_Model_initCircle_112 : decode b_Model_initCircle 112 = .ok (.ifCond .eq 27, 3) := by decide +kernel
theorem d_Model_initCircle_115 : decode b_Model_initCircle 115 = .ok (.aload_n 0, 1) := by decide +kernel
theorem d_Model_initCircle_116 : decode b_Model_initCircle 116 = .ok (.getfield 19, 3) := by decide +kernel
theorem d_Model_initCircle_119 : decode b_Model_initCircle 119 = .ok (.aload_n 0, 1) := by decide +kernel
theorem d_Model_initCircle_120 : decode b_Model_initCircle 120 = .ok (.getfield 41, 3) := by decide +kernel
theorem d_Model_initCircle_123 : decode b_Model_initCircle 123 = .ok (.aload_n 0, 1) := by decide +kernel
theorem d_Model_initCircle_124 : decode b_Model_initCircle 124 = .ok (.getfield 22, 3) := by decide +kernel
theorem d_Model_initCircle_127 : decode b_Model_initCircle 127 = .ok (.aload_n 0, 1) := by decide +kernel
theorem d_Model_initCircle_128 : decode b_Model_initCircle 128 = .ok (.getfield 41, 3) := by decide +kernel
theorem d_Model_initCircle_131 : decode b_Model_initCircle 131 = .ok (.iaload, 1) := by decide +kernel
theorem d_Model_initCircle_132 : decode b_Model_initCircle 132 = .ok (.bipush 30, 2) := by decide +kernel
theorem d_Model_initCircle_134 : decode b_Model_initCircle 134 = .ok (.iadd, 1) := by decide +kernel
theorem d_Model_initCircle_135 : decode b_Model_initCircle 135 = .ok (.iastore, 1) := by decide +kernel
theorem d_Model_initCircle_136 : decode b_Model_initCircle 136 = .ok (.goto 24, 3) := by decide +kernel
theorem d_Model_initCircle_139 : decode b_Model_initCircle 139 = .ok (.aload_n 0, 1) := by decide +kernel
theorem d_Model_initCircle_140 : decode b_Model_initCircle 140 = .ok (.getfield 22, 3) := by decide +kernel
theorem d_Model_initCircle_143 : decode b_Model_initCircle 143 = .ok (.aload_n 0, 1) := by decide +kernel
theorem d_Model_initCircle_144 : decode b_Model_initCircle 144 = .ok (.getfield 41, 3) := by decide +kernel
theorem d_Model_initCircle_147 : decode b_Model_initCircle 147 = .ok (.aload_n 0, 1) := by decide +kernel
theorem d_Model_initCircle_148 : decode b_Model_initCircle 148 = .ok (.getfield 19, 3) := by decide +kernel
theorem d_Model_initCircle_151 : decode b_Model_initCircle 151 = .ok (.aload_n 0, 1) := by decide +kernel
theorem d_Model_initCircle_152 : decode b_Model_initCircle 152 = .ok (.getfield 41, 3) := by decide +kernel
theorem d_Model_initCircle_155 : decode b_Model_initCircle 155 = .ok (.iaload, 1) := by decide +kernel
theorem d_Model_initCircle_156 : decode b_Model_initCircle 156 = .ok (.bipush 40, 2) := by decide +kernel
theorem d_Model_initCircle_158 : decode b_Model_initCircle 158 = .ok (.iadd, 1) := by decide +kernel
theorem d_Model_initCircle_159 : decode b_Model_initCircle 159 = .ok (.iastore, 1) := by decide +kernel
theorem d_Model_initCircle_160 : decode b_Model_initCircle 160 = .ok (.aload_n 0, 1) := by decide +kernel
theorem d_Model_initCircle_161 : decode b_Model_initCircle 161 = .ok (.iload_n 1, 1) := by decide +kernel
theorem d_Model_initCircle_162 : decode b_Model_initCircle 162 = .ok (.ifCond .eq 8, 3) := by decide +kernel
theorem d_Model_initCircle_165 : decode b_Model_initCircle 165 = .ok (.bipush 10, 2) := by decide +kernel
theorem d_Model_initCircle_167 : decode b_Model_initCircle 167 = .ok (.goto 5, 3) := by decide +kernel
theorem d_Model_initCircle_170 : decode b_Model_initCircle 170 = .ok (.bipush 11, 2) := by decide +kernel
theorem d_Model_initCircle_172 : decode b_Model_initCircle 172 = .ok (.invokevirtual 66, 3) := by decide +kernel
theorem d_Model_initCircle_175 : decode b_Model_initCircle 175 = .ok (.return_, 1) := by decide +kernel
theorem d_Model_initLazy_0 : decode b_Model_initLazy 0 = .ok (.aload_n 0, 1) := by decide +kernel
theorem d_Model_initLazy_1 : decode b_Model_initLazy 1 = .ok (.bipush 13, 2) := by decide +kernel
theorem d_Model_initLazy_3 : decode b_Model_initLazy 3 = .ok (.invokevirtual 58, 3) := by decide +kernel
theorem d_Model_initLazy_6 : decode b_Model_initLazy 6 = .ok (.ifCond .ne 4, 3) := by decide +kernel
theorem d_Model_initLazy_9 : decode b_Model_initLazy 9 = .ok (.return_, 1) := by decide +kernel
theorem d_Model_initLazy_10 : decode b_Model_initLazy 10 = .ok (.aload_n 0, 1) := by decide +kernel
theorem d_Model_initLazy_11 : decode b_Model_initLazy 11 = .ok (.invokevirtual 69, 3) := by decide +kernel
theorem d_Model_initLazy_14 : decode b_Model_initLazy 14 = .ok (.aload_n 0, 1) := by decide +kernel
theorem d_Model_initLazy_15 : decode b_Model_initLazy 15 = .ok (.bipush 20, 2) := by decide +kernel
theorem d_Model_initLazy_17 : decode b_Model_initLazy 17 = .ok (.invokevirtual 62, 3) := by decide +kernel
theorem d_Model_initLazy_20 : decode b_Model_initLazy 20 = .ok (.aload_n 0, 1) := by decide +kernel
theorem d_Model_initLazy_21 : decode b_Model_initLazy 21 = .ok (.bipush 14, 2) := by decide +kernel
theorem d_Model_initLazy_23 : decode b_Model_initLazy 23 = .ok (.invokevirtual 62, 3) := by decide +kernel
theorem d_Model_initLazy_26 : decode b_Model_initLazy 26 = .ok (.aload_n 0, 1) := by decide +kernel
theorem d_Model_initLazy_27 : decode b_Model_initLazy 27 = .ok (.bipush 13, 2) := by decide +kernel
theorem d_Model_initLazy_29 : decode b_Model_initLazy 29 = .ok (.invokevirtual 66, 3) := by decide +kernel
theorem d_Model_initLazy_32 : decode b_Model_initLazy 32 = .ok (.return_, 1) := by decide +kernel
theorem d_Model_initGrade_0 : decode b_Model_initGrade 0 = .ok (.aload_n 0, 1) := by decide +kernel
theorem d_Model_initGrade_1 : decode b_Model_initGrade 1 = .ok (.bipush 14, 2) := by decide +kernel
theorem d_Model_initGrade_3 : decode b_Model_initGrade 3 = .ok (.invokevirtual 58, 3) := by decide +kernel
theorem d_Model_initGrade_6 : decode b_Model_initGrade 6 = .ok (.ifCond .ne 4, 3) := by decide +kernel
theorem d_Model_initGrade_9 : decode b_Model_initGrade 9 = .ok (.return_, 1) := by decide +kernel
theorem d_Model_initGrade_10 : decode b_Model_initGrade 10 = .ok (.aload_n 0, 1) := by decide +kernel
theorem d_Model_initGrade_11 : decode b_Model_initGrade 11 = .ok (.bipush 16, 2) := by decide +kernel
theorem d_Model_initGrade_13 : decode b_Model_initGrade 13 = .ok (.invokevirtual 62, 3) := by decide +kernel
theorem d_Model_initGrade_16 : decode b_Model_initGrade 16 = .ok (.aload_n 0, 1) := by decide +kernel
theorem d_Model_initGrade_17 : decode b_Model_initGrade 17 = .ok (.bipush 16, 2) := by decide +kernel
theorem d_Model_initGrade_19 : decode b_Model_initGrade 19 = .ok (.invokevirtual 62, 3) := by decide +kernel
theorem d_Model_initGrade_22 : decode b_Model_initGrade 22 = .ok (.aload_n 0, 1) := by decide +kernel
theorem d_Model_initGrade_23 : decode b_Model_initGrade 23 = .ok (.bipush 17, 2) := by decide +kernel
theorem d_Model_initGrade_25 : decode b_Model_initGrade 25 = .ok (.invokevirtual 62, 3) := by decide +kernel
theorem d_Model_initGrade_28 : decode b_Model_initGrade 28 = .ok (.aload_n 0, 1) := by decide +kernel
theorem d_Model_initGrade_29 : decode b_Model_initGrade 29 = .ok (.bipush 14, 2) := by decide +kernel
theorem d_Model_initGrade_31 : decode b_Model_initGrade 31 = .ok (.invokevirtual 66, 3) := by decide +kernel
theorem d_Model_initGrade_34 : decode b_Model_initGrade 34 = .ok (.return_, 1) := by decide +kernel
theorem d_Model_initChecked_0 : decode b_Model_initChecked 0 = .ok (.aload_n 0, 1) := by decide +kernel
theorem d_Model_initChecked_1 : decode b_Model_initChecked 1 = .ok (.bipush 15, 2) := by decide +kernel
theorem d_Model_initChecked_3 : decode b_Model_initChecked 3 = .ok (.invokevirtual 58, 3) := by decide +kernel
theorem d_Model_initChecked_6 : decode b_Model_initChecked 6 = .ok (.ifCond .ne 4, 3) := by decide +kernel
theorem d_Model_initChecked_9 : decode b_Model_initChecked 9 = .ok (.return_, 1) := by decide +kernel
theorem d_Model_initChecked_10 : decode b_Model_initChecked 10 = .ok (.aload_n 0, 1) := by decide +kernel
theorem d_Model_initChecked_11 : decode b_Model_initChecked 11 = .ok (.getfield 38, 3) := by decide +kernel
theorem d_Model_initChecked_14 : decode b_Model_initChecked 14 = .ok (.aload_n 0, 1) := by decide +kernel
theorem d_Model_initChecked_15 : decode b_Model_initChecked 15 = .ok (.getfield 41, 3) := by decide +kernel
theorem d_Model_initChecked_18 : decode b_Model_initChecked 18 = .ok (.aload_n 0, 1) := by decide +kernel
theorem d_Model_initChecked_19 : decode b_Model_initChecked 19 = .ok (.getfield 34, 3) := by decide +kernel
theorem d_Model_initChecked_22 : decode b_Model_initChecked 22 = .ok (.aload_n 0, 1) := by decide +kernel
theorem d_Model_initChecked_23 : decode b_Model_initChecked 23 = .ok (.getfield 41, 3) := by decide +kernel
theorem d_Model_initChecked_26 : decode b_Model_initChecked 26 = .ok (.baload, 1) := by decide +kernel
theorem d_Model_initChecked_27 : decode b_Model_initChecked 27 = .ok (.bastore, 1) := by decide +kernel
theorem d_Model_initChecked_28 : decode b_Model_initChecked 28 = .ok (.aload_n 0, 1) := by decide +kernel
theorem d_Model_initChecked_29 : decode b_Model_initChecked 29 = .ok (.bipush 18, 2) := by decide +kernel
theorem d_Model_initChecked_31 : decode b_Model_initChecked 31 = .ok (.invokevirtual 62, 3) := by decide +kernel
theorem d_Model_initChecked_34 : decode b_Model_initChecked 34 = .ok (.aload_n 0, 1) := by decide +kernel
theorem d_Model_initChecked_35 : decode b_Model_initChecked 35 = .ok (.bipush 15, 2) := by decide +kernel
theorem d_Model_initChecked_37 : decode b_Model_initChecked 37 = .ok (.invokevirtual 66, 3) := by decide +kernel
theorem d_Model_initChecked_40 : decode b_Model_initChecked 40 = .ok (.return_, 1) := by decide +kernel
theorem d_Model_initSlow_0 : decode b_Model_initSlow 0 = .ok (.aload_n 0, 1) := by decide +kernel
theorem d_Model_initSlow_1 : decode b_Model_initSlow 1 = .ok (.bipush 16, 2) := by decide +kernel
theorem d_Model_initSlow_3 : decode b_Model_initSlow 3 = .ok (.invokevirtual 58, 3) := by decide +kernel
theorem d_Model_initSlow_6 : decode b_Model_initSlow 6 = .ok (.ifCond .ne 4, 3) := by decide +kernel
theorem d_Model_initSlow_9 : decode b_Model_initSlow 9 = .ok (.return_, 1) := by decide +kernel
theorem d_Model_initSlow_10 : decode b_Model_initSlow 10 = .ok (.aload_n 0, 1) := by decide +kernel
theorem d_Model_initSlow_11 : decode b_Model_initSlow 11 = .ok (.bipush 19, 2) := by decide +kernel
theorem d_Model_initSlow_13 : decode b_Model_initSlow 13 = .ok (.invokevirtual 62, 3) := by decide +kernel
theorem d_Model_initSlow_16 : decode b_Model_initSlow 16 = .ok (.aload_n 0, 1) := by decide +kernel
theorem d_Model_initSlow_17 : decode b_Model_initSlow 17 = .ok (.getfield 25, 3) := by decide +kernel
theorem d_Model_initSlow_20 : decode b_Model_initSlow 20 = .ok (.aload_n 0, 1) := by decide +kernel
theorem d_Model_initSlow_21 : decode b_Model_initSlow 21 = .ok (.getfield 41, 3) := by decide +kernel
theorem d_Model_initSlow_24 : decode b_Model_initSlow 24 = .ok (.bipush 19, 2) := by decide +kernel
theorem d_Model_initSlow_26 : decode b_Model_initSlow 26 = .ok (.iastore, 1) := by decide +kernel
theorem d_Model_initSlow_27 : decode b_Model_initSlow 27 = .ok (.aload_n 0, 1) := by decide +kernel
theorem d_Model_initSlow_28 : decode b_Model_initSlow 28 = .ok (.bipush 16, 2) := by decide +kernel
theorem d_Model_initSlow_30 : decode b_Model_initSlow 30 = .ok (.invokevirtual 66, 3) := by decide +kernel
theorem d_Model_initSlow_33 : decode b_Model_initSlow 33 = .ok (.return_, 1) := by decide +kernel
theorem d_Model_initk_0 : decode b_Model_initk 0 = .ok (.iload_n 1, 1) := by decide +kernel
theorem d_Model_initk_1 : decode b_Model_initk 1 = .ok (.tableswitch 204 0 15 #[79, 86, 93, 100, 109, 119, 128, 139, 146, 151, 156, 164, 172, 183, 190, 197], 79) := by decide +kernel
theorem d_Model_initk_80 : decode b_Model_initk 80 = .ok (.aload_n 0, 1) := by decide +kernel
theorem d_Model_initk_81 : decode b_Model_initk 81 = .ok (.invokevirtual 69, 3) := by decide +kernel
theorem d_Model_initk_84 : decode b_Model_initk 84 = .ok (.goto 125, 3) := by decide +kernel
theorem d_Model_initk_87 : decode b_Model_initk 87 = .ok (.aload_n 0, 1) := by decide +kernel
theorem d_Model_initk_88 : decode b_Model_initk 88 = .ok (.invokevirtual 76, 3) := by decide +kernel
theorem d_Model_initk_91 : decode b_Model_initk 91 = .ok (.goto 118, 3) := by decide +kernel
theorem d_Model_initk_94 : decode b_Model_initk 94 = .ok (.aload_n 0, 1) := by decide +kernel
theorem d_Model_initk_95 : decode b_Model_initk 95 = .ok (.invokevirtual 83, 3) := by decide +kernel
theorem d_Model_initk_98 : decode b_Model_initk 98 = .ok (.goto 111, 3) := by decide +kernel
theorem d_Model_initk_101 : decode b_Model_initk 101 = .ok (.aload_n 0, 1) := by decide +kernel
theorem d_Model_initk_102 : decode b_Model_initk 102 = .ok (.iconst 3, 1) := by decide +kernel
theorem d_Model_initk_103 : decode b_Model_initk 103 = .ok (.iconst 4, 1) := by decide +kernel
theorem d_Model_initk_104 : decode b_Model_initk 104 = .ok (.invokevirtual 72, 3) := by decide +kernel
theorem d_Model_initk_107 : decode b_Model_initk 107 = .ok (.goto 102, 3) := by decide +kernel
theorem d_Model_initk_110 : decode b_Model_initk 110 = .ok (.aload_n 0, 1) := by decide +kernel
theorem d_Model_initk_111 : decode b_Model_initk 111 = .ok (.iconst 4, 1) := by decide +kernel
theorem d_Model_initk_112 : decode b_Model_initk 112 = .ok (.bipush 15, 2) := by decide +kernel
theorem d_Model_initk_114 : decode b_Model_initk 114 = .ok (.invokevirtual 72, 3) := by decide +kernel
theorem d_Model_initk_117 : decode b_Model_initk 117 = .ok (.goto 92, 3) := by decide +kernel
theorem d_Model_initk_120 : decode b_Model_initk 120 = .ok (.aload_n 0, 1) := by decide +kernel
theorem d_Model_initk_121 : decode b_Model_initk 121 = .ok (.iconst 5, 1) := by decide +kernel
theorem d_Model_initk_122 : decode b_Model_initk 122 = .ok (.iconst 5, 1) := by decide +kernel
theorem d_Model_initk_123 : decode b_Model_initk 123 = .ok (.invokevirtual 72, 3) := by decide +kernel
theorem d_Model_initk_126 : decode b_Model_initk 126 = .ok (.goto 83, 3) := by decide +kernel
theorem d_Model_initk_129 : decode b_Model_initk 129 = .ok (.aload_n 0, 1) := by decide +kernel
theorem d_Model_initk_130 : decode b_Model_initk 130 = .ok (.bipush 6, 2) := by decide +kernel
theorem d_Model_initk_132 : decode b_Model_initk 132 = .ok (.bipush 11, 2) := by decide +kernel
theorem d_Model_initk_134 : decode b_Model_initk 134 = .ok (.invokevirtual 72, 3) := by decide +kernel
theorem d_Model_initk_137 : decode b_Model_initk 137 = .ok (.goto 72, 3) := by decide +kernel
theorem d_Model_initk_140 : decode b_Model_initk 140 = .ok (.aload_n 0, 1) := by decide +kernel
theorem d_Model_initk_141 : decode b_Model_initk 141 = .ok (.invokevirtual 86, 3) := by decide +kernel
theorem d_Model_initk_144 : decode b_Model_initk 144 = .ok (.goto 65, 3) := by decide +kernel
theorem d_Model_initk_147 : decode b_Model_initk 147 = .ok (.aload_n 0, 1) := by decide +kernel
theorem d_Model_initk_148 : decode b_Model_initk 148 = .ok (.invokevirtual 79, 3) := by decide +kernel
theorem d_Model_initk_151 : decode b_Model_initk 151 = .ok (.ireturn, 1) := by decide +kernel
theorem d_Model_initk_152 : decode b_Model_initk 152 = .ok (.aload_n 0, 1) := by decide +kernel
theorem d_Model_initk_153 : decode b_Model_initk 153 = .ok (.invokevirtual 89, 3) := by decide +kernel
theorem d_Model_initk_156 : decode b_Model_initk 156 = .ok (.ireturn, 1) := by decide +kernel
theorem d_Model_initk_157 : decode b_Model_initk 157 = .ok (.aload_n 0, 1) := by decide +kernel
theorem d_Model_initk_158 : decode b_Model_initk 158 = .ok (.iconst 1, 1) := by decide +kernel
theorem d_Model_initk_159 : decode b_Model_initk 159 = .ok (.invokevirtual 92, 3) := by decide +kernel
theorem d_Model_initk_162 : decode b_Model_initk 162 = .ok (.goto 47, 3) := by decide +kernel
theorem d_Model_initk_165 : decode b_Model_initk 165 = .ok (.aload_n 0, 1) := by decide +kernel
theorem d_Model_initk_166 : decode b_Model_initk 166 = .ok (.iconst 0, 1) := by decide +kernel
theorem d_Model_initk_167 : decode b_Model_initk 167 = .ok (.invokevirtual 92, 3) := by decide +kernel
theorem d_Model_initk_170 : decode b_Model_initk 170 = .ok (.goto 39, 3) := by decide +kernel
theorem d_Model_initk_173 : decode b_Model_initk 173 = .ok (.aload_n 0, 1) := by decide +kernel
theorem d_Model_initk_174 : decode b_Model_initk 174 = .ok (.bipush 12, 2) := by decide +kernel
theorem d_Model_initk_176 : decode b_Model_initk 176 = .ok (.bipush 13, 2) := by decide +kernel
theorem d_Model_initk_178 : decode b_Model_initk 178 = .ok (.invokevirtual 72, 3) := by decide +kernel
theorem d_Model_initk_181 : decode b_Model_initk 181 = .ok (.goto 28, 3) := by decide +kernel
theorem d_Model_initk_184 : decode b_Model_initk 184 = .ok (.aload_n 0, 1) := by decide +kernel
theorem d_Model_initk_185 : decode b_Model_initk 185 = .ok (.invokevirtual 96, 3) := by decide +kernel
theorem d_Model_initk_188 : decode b_Model_initk 188 = .ok (.goto 21, 3) := by decide +kernel
theorem d_Model_initk_191 : decode b_Model_initk 191 = .ok (.aload_n 0, 1) := by decide +kernel
theorem d_Model_initk_192 : decode b_Model_initk 192 = .ok (.invokevirtual 99, 3) := by decide +kernel
theorem d_Model_initk_195 : decode b_Model_initk 195 = .ok (.goto 14, 3) := by decide +kernel
theorem d_Model_initk_198 : decode b_Model_initk 198 = .ok (.aload_n 0, 1) := by decide +kernel
theorem d_Model_initk_199 : decode b_Model_initk 199 = .ok (.invokevirtual 102, 3) := by decide +kernel
theorem d_Model_initk_202 : decode b_Model_initk 202 = .ok (.goto 7, 3) := by decide +kernel
theorem d_Model_initk_205 : decode b_Model_initk 205 = .ok (.aload_n 0, 1) := by decide +kernel
theorem d_Model_initk_206 : decode b_Model_initk 206 = .ok (.invokevirtual 105, 3) := by decide +kernel
theorem d_Model_initk_209 : decode b_Model_initk 209 = .ok (.iconst 0, 1) := by decide +kernel
theorem d_Model_initk_210 : decode b_Model_initk 210 = .ok (.ireturn, 1) := by decide +kernel
theorem d_Model_create_0 : decode b_Model_create 0 = .ok (.aload_n 0, 1) := by decide +kernel
theorem d_Model_create_1 : decode b_Model_create 1 = .ok (.iload_n 1, 1) := by decide +kernel
theorem d_Model_create_2 : decode b_Model_create 2 = .ok (.invokevirtual 108, 3) := by decide +kernel
theorem d_Model_create_5 : decode b_Model_create 5 = .ok (.istore_n 2, 1) := by decide +kernel
theorem d_Model_create_6 : decode b_Model_create 6 = .ok (.aload_n 0, 1) := by decide +kernel
theorem d_Model_create_7 : decode b_Model_create 7 = .ok (.bipush 20, 2) := by decide +kernel
theorem d_Model_create_9 : decode b_Model_create 9 = .ok (.invokevirtual 62, 3) := by decide +kernel
theorem d_Model_create_12 : decode b_Model_create 12 = .ok (.iload_n 1, 1) := by decide +kernel
theorem d_Model_create_13 : decode b_Model_create 13 = .ok (.ifCond .ne 4, 3) := by decide +kernel
theorem d_Model_create_16 : decode b_Model_create 16 = .ok (.return_, 1) := by decide +kernel
theorem d_Model_create_17 : decode b_Model_create 17 = .ok (.aload_n 0, 1) := by decide +kernel
theorem d_Model_create_18 : decode b_Model_create 18 = .ok (.bipush 21, 2) := by decide +kernel
theorem d_Model_create_20 : decode b_Model_create 20 = .ok (.invokevirtual 62, 3) := by decide +kernel
theorem d_Model_create_23 : decode b_Model_create 23 = .ok (.aload_n 0, 1) := by decide +kernel
theorem d_Model_create_24 : decode b_Model_create 24 = .ok (.bipush 22, 2) := by decide +kernel
theorem d_Model_create_26 : decode b_Model_create 26 = .ok (.invokevirtual 62, 3) := by decide +kernel
theorem d_Model_create_29 : decode b_Model_create 29 = .ok (.aload_n 0, 1) := by decide +kernel
theorem d_Model_create_30 : decode b_Model_create 30 = .ok (.bipush 23, 2) := by decide +kernel
theorem d_Model_create_32 : decode b_Model_create 32 = .ok (.invokevirtual 62, 3) := by decide +kernel
theorem d_Model_create_35 : decode b_Model_create 35 = .ok (.return_, 1) := by decide +kernel
theorem d_Model_begin_0 : decode b_Model_begin 0 = .ok (.aload_n 0, 1) := by decide +kernel
theorem d_Model_begin_1 : decode b_Model_begin 1 = .ok (.getfield 51, 3) := by decide +kernel
theorem d_Model_begin_4 : decode b_Model_begin 4 = .ok (.bipush 8, 2) := by decide +kernel
theorem d_Model_begin_6 : decode b_Model_begin 6 = .ok (.if_icmp .ne 5, 3) := by decide +kernel
theorem d_Model_begin_9 : decode b_Model_begin 9 = .ok (.iconst (-1), 1) := by decide +kernel
theorem d_Model_begin_10 : decode b_Model_begin 10 = .ok (.ireturn, 1) := by decide +kernel
