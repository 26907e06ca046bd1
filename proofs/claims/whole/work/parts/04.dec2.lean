theorem d_World_initialiseAt_64 : decode b_World_initialiseAt 64 = .ok (.iconst 1, 1) := by decide +kernel
theorem d_World_initialiseAt_65 : decode b_World_initialiseAt 65 = .ok (.iadd, 1) := by decide +kernel
theorem d_World_initialiseAt_66 : decode b_World_initialiseAt 66 = .ok (.invokevirtual 42, 3) := by decide +kernel
theorem d_World_initialiseAt_69 : decode b_World_initialiseAt 69 = .ok (.istore_n 3, 1) := by decide +kernel
theorem d_World_initialiseAt_70 : decode b_World_initialiseAt 70 = .ok (.aload_n 0, 1) := by decide +kernel
theorem d_World_initialiseAt_71 : decode b_World_initialiseAt 71 = .ok (.getfield 20, 3) := by decide +kernel
theorem d_World_initialiseAt_74 : decode b_World_initialiseAt 74 = .ok (.iload_n 1, 1) := by decide +kernel
theorem d_World_initialiseAt_75 : decode b_World_initialiseAt 75 = .ok (.iload_n 3, 1) := by decide +kernel
theorem d_World_initialiseAt_76 : decode b_World_initialiseAt 76 = .ok (.ifCond .ne 7, 3) := by decide +kernel
theorem d_World_initialiseAt_79 : decode b_World_initialiseAt 79 = .ok (.iconst 2, 1) := by decide +kernel
theorem d_World_initialiseAt_80 : decode b_World_initialiseAt 80 = .ok (.goto 4, 3) := by decide +kernel
theorem d_World_initialiseAt_83 : decode b_World_initialiseAt 83 = .ok (.iconst 3, 1) := by decide +kernel
theorem d_World_initialiseAt_84 : decode b_World_initialiseAt 84 = .ok (.iastore, 1) := by decide +kernel
theorem d_World_initialiseAt_85 : decode b_World_initialiseAt 85 = .ok (.iload_n 3, 1) := by decide +kernel
theorem d_World_initialiseAt_86 : decode b_World_initialiseAt 86 = .ok (.ireturn, 1) := by decide +kernel
theorem d_World_initialiseAbove_0 : decode b_World_initialiseAbove 0 = .ok (.iload_n 1, 1) := by decide +kernel
theorem d_World_initialiseAbove_1 : decode b_World_initialiseAbove 1 = .ok (.invokestatic 45, 3) := by decide +kernel
theorem d_World_initialiseAbove_4 : decode b_World_initialiseAbove 4 = .ok (.ifCond .eq 5, 3) := by decide +kernel
theorem d_World_initialiseAbove_7 : decode b_World_initialiseAbove 7 = .ok (.iconst 0, 1) := by decide +kernel
theorem d_World_initialiseAbove_8 : decode b_World_initialiseAbove 8 = .ok (.ireturn, 1) := by decide +kernel
theorem d_World_initialiseAbove_9 : decode b_World_initialiseAbove 9 = .ok (.aload_n 0, 1) := by decide +kernel
theorem d_World_initialiseAbove_10 : decode b_World_initialiseAbove 10 = .ok (.iload_n 1, 1) := by decide +kernel
theorem d_World_initialiseAbove_11 : decode b_World_initialiseAbove 11 = .ok (.invokestatic 48, 3) := by decide +kernel
theorem d_World_initialiseAbove_14 : decode b_World_initialiseAbove 14 = .ok (.iload_n 2, 1) := by decide +kernel
theorem d_World_initialiseAbove_15 : decode b_World_initialiseAbove 15 = .ok (.invokevirtual 31, 3) := by decide +kernel
theorem d_World_initialiseAbove_18 : decode b_World_initialiseAbove 18 = .ok (.istore_n 3, 1) := by decide +kernel
theorem d_World_initialiseAbove_19 : decode b_World_initialiseAbove 19 = .ok (.iload_n 3, 1) := by decide +kernel
theorem d_World_initialiseAbove_20 : decode b_World_initialiseAbove 20 = .ok (.ifCond .ne 9, 3) := by decide +kernel
theorem d_World_initialiseAbove_23 : decode b_World_initialiseAbove 23 = .ok (.aload_n 0, 1) := by decide +kernel
theorem d_World_initialiseAbove_24 : decode b_World_initialiseAbove 24 = .ok (.iload_n 1, 1) := by decide +kernel
theorem d_World_initialiseAbove_25 : decode b_World_initialiseAbove 25 = .ok (.iload_n 2, 1) := by decide +kernel
theorem d_World_initialiseAbove_26 : decode b_World_initialiseAbove 26 = .ok (.invokevirtual 52, 3) := by decide +kernel
theorem d_World_initialiseAbove_29 : decode b_World_initialiseAbove 29 = .ok (.iload_n 3, 1) := by decide +kernel
theorem d_World_initialiseAbove_30 : decode b_World_initialiseAbove 30 = .ok (.ireturn, 1) := by decide +kernel
theorem d_World_initialiseInterfaces_0 : decode b_World_initialiseInterfaces 0 = .ok (.iload_n 2, 1) := by decide +kernel
theorem d_World_initialiseInterfaces_1 : decode b_World_initialiseInterfaces 1 = .ok (.bipush 34, 2) := by decide +kernel
theorem d_World_initialiseInterfaces_3 : decode b_World_initialiseInterfaces 3 = .ok (.if_icmp .le 4, 3) := by decide +kernel
theorem d_World_initialiseInterfaces_6 : decode b_World_initialiseInterfaces 6 = .ok (.return_, 1) := by decide +kernel
theorem d_World_initialiseInterfaces_7 : decode b_World_initialiseInterfaces 7 = .ok (.iconst 0, 1) := by decide +kernel
theorem d_World_initialiseInterfaces_8 : decode b_World_initialiseInterfaces 8 = .ok (.istore_n 3, 1) := by decide +kernel
theorem d_World_initialiseInterfaces_9 : decode b_World_initialiseInterfaces 9 = .ok (.iload_n 3, 1) := by decide +kernel
theorem d_World_initialiseInterfaces_10 : decode b_World_initialiseInterfaces 10 = .ok (.getstatic 56, 3) := by decide +kernel
theorem d_World_initialiseInterfaces_13 : decode b_World_initialiseInterfaces 13 = .ok (.arraylength, 1) := by decide +kernel
theorem d_World_initialiseInterfaces_14 : decode b_World_initialiseInterfaces 14 = .ok (.if_icmp .ge 54, 3) := by decide +kernel
theorem d_World_initialiseInterfaces_17 : decode b_World_initialiseInterfaces 17 = .ok (.getstatic 56, 3) := by decide +kernel
theorem d_World_initialiseInterfaces_20 : decode b_World_initialiseInterfaces 20 = .ok (.iload_n 3, 1) := by decide +kernel
theorem d_World_initialiseInterfaces_21 : decode b_World_initialiseInterfaces 21 = .ok (.iaload, 1) := by decide +kernel
theorem d_World_initialiseInterfaces_22 : decode b_World_initialiseInterfaces 22 = .ok (.iload_n 1, 1) := by decide +kernel
theorem d_World_initialiseInterfaces_23 : decode b_World_initialiseInterfaces 23 = .ok (.if_icmp .ne 39, 3) := by decide +kernel
theorem d_World_initialiseInterfaces_26 : decode b_World_initialiseInterfaces 26 = .ok (.aload_n 0, 1) := by decide +kernel
theorem d_World_initialiseInterfaces_27 : decode b_World_initialiseInterfaces 27 = .ok (.getstatic 59, 3) := by decide +kernel
theorem d_World_initialiseInterfaces_30 : decode b_World_initialiseInterfaces 30 = .ok (.iload_n 3, 1) := by decide +kernel
theorem d_World_initialiseInterfaces_31 : decode b_World_initialiseInterfaces 31 = .ok (.iaload, 1) := by decide +kernel
theorem d_World_initialiseInterfaces_32 : decode b_World_initialiseInterfaces 32 = .ok (.iload_n 2, 1) := by decide +kernel
theorem d_World_initialiseInterfaces_33 : decode b_World_initialiseInterfaces 33 = .ok (.iconst 1, 1) := by decide +kernel
theorem d_World_initialiseInterfaces_34 : decode b_World_initialiseInterfaces 34 = .ok (.iadd, 1) := by decide +kernel
theorem d_World_initialiseInterfaces_35 : decode b_World_initialiseInterfaces 35 = .ok (.invokevirtual 52, 3) := by decide +kernel
theorem d_World_initialiseInterfaces_38 : decode b_World_initialiseInterfaces 38 = .ok (.getstatic 59, 3) := by decide +kernel
theorem d_World_initialiseInterfaces_41 : decode b_World_initialiseInterfaces 41 = .ok (.iload_n 3, 1) := by decide +kernel
theorem d_World_initialiseInterfaces_42 : decode b_World_initialiseInterfaces 42 = .ok (.iaload, 1) := by decide +kernel
theorem d_World_initialiseInterfaces_43 : decode b_World_initialiseInterfaces 43 = .ok (.invokestatic 62, 3) := by decide +kernel
theorem d_World_initialiseInterfaces_46 : decode b_World_initialiseInterfaces 46 = .ok (.ifCond .eq 16, 3) := by decide +kernel
theorem d_World_initialiseInterfaces_49 : decode b_World_initialiseInterfaces 49 = .ok (.aload_n 0, 1) := by decide +kernel
theorem d_World_initialiseInterfaces_50 : decode b_World_initialiseInterfaces 50 = .ok (.getstatic 59, 3) := by decide +kernel
theorem d_World_initialiseInterfaces_53 : decode b_World_initialiseInterfaces 53 = .ok (.iload_n 3, 1) := by decide +kernel
theorem d_World_initialiseInterfaces_54 : decode b_World_initialiseInterfaces 54 = .ok (.iaload, 1) := by decide +kernel
theorem d_World_initialiseInterfaces_55 : decode b_World_initialiseInterfaces 55 = .ok (.iload_n 2, 1) := by decide +kernel
theorem d_World_initialiseInterfaces_56 : decode b_World_initialiseInterfaces 56 = .ok (.iconst 1, 1) := by decide +kernel
theorem d_World_initialiseInterfaces_57 : decode b_World_initialiseInterfaces 57 = .ok (.iadd, 1) := by decide +kernel
theorem d_World_initialiseInterfaces_58 : decode b_World_initialiseInterfaces 58 = .ok (.invokevirtual 31, 3) := by decide +kernel
theorem d_World_initialiseInterfaces_61 : decode b_World_initialiseInterfaces 61 = .ok (.pop, 1) := by decide +kernel
theorem d_World_initialiseInterfaces_62 : decode b_World_initialiseInterfaces 62 = .ok (.iinc 3 1, 3) := by decide +kernel
theorem d_World_initialiseInterfaces_65 : decode b_World_initialiseInterfaces 65 = .ok (.goto (-56), 3) := by decide +kernel
theorem d_World_initialiseInterfaces_68 : decode b_World_initialiseInterfaces 68 = .ok (.return_, 1) := by decide +kernel
theorem d_World_runDeeds_0 : decode b_World_runDeeds 0 = .ok (.iload_n 1, 1) := by decide +kernel
theorem d_World_runDeeds_1 : decode b_World_runDeeds 1 = .ok (.tableswitch 257 0 15 #[79, 99, 119, 257, 257, 257, 257, 257, 139, 257, 154, 176, 257, 198, 212, 240], 79) := by decide +kernel
theorem d_World_runDeeds_80 : decode b_World_runDeeds 80 = .ok (.aload_n 0, 1) := by decide +kernel
theorem d_World_runDeeds_81 : decode b_World_runDeeds 81 = .ok (.getfield 17, 3) := by decide +kernel
theorem d_World_runDeeds_84 : decode b_World_runDeeds 84 = .ok (.iload_n 1, 1) := by decide +kernel
theorem d_World_runDeeds_85 : decode b_World_runDeeds 85 = .ok (.aload_n 0, 1) := by decide +kernel
theorem d_World_runDeeds_86 : decode b_World_runDeeds 86 = .ok (.bipush 10, 2) := by decide +kernel
theorem d_World_runDeeds_88 : decode b_World_runDeeds 88 = .ok (.invokevirtual 65, 3) := by decide +kernel
theorem d_World_runDeeds_91 : decode b_World_runDeeds 91 = .ok (.iastore, 1) := by decide +kernel
theorem d_World_runDeeds_92 : decode b_World_runDeeds 92 = .ok (.aload_n 0, 1) := by decide +kernel
theorem d_World_runDeeds_93 : decode b_World_runDeeds 93 = .ok (.iconst 1, 1) := by decide +kernel
theorem d_World_runDeeds_94 : decode b_World_runDeeds 94 = .ok (.invokevirtual 65, 3) := by decide +kernel
theorem d_World_runDeeds_97 : decode b_World_runDeeds 97 = .ok (.pop, 1) := by decide +kernel
theorem d_World_runDeeds_98 : decode b_World_runDeeds 98 = .ok (.iconst 0, 1) := by decide +kernel
theorem d_World_runDeeds_99 : decode b_World_runDeeds 99 = .ok (.ireturn, 1) := by decide +kernel
theorem d_World_runDeeds_100 : decode b_World_runDeeds 100 = .ok (.aload_n 0, 1) := by decide +kernel
theorem d_World_runDeeds_101 : decode b_World_runDeeds 101 = .ok (.getfield 17, 3) := by decide +kernel
theorem d_World_runDeeds_104 : decode b_World_runDeeds 104 = .ok (.iload_n 1, 1) := by decide +kernel
theorem d_World_runDeeds_105 : decode b_World_runDeeds 105 = .ok (.aload_n 0, 1) := by decide +kernel
theorem d_World_runDeeds_106 : decode b_World_runDeeds 106 = .ok (.iconst 2, 1) := by decide +kernel
theorem d_World_runDeeds_107 : decode b_World_runDeeds 107 = .ok (.invokevirtual 65, 3) := by decide +kernel
theorem d_World_runDeeds_110 : decode b_World_runDeeds 110 = .ok (.aload_n 0, 1) := by decide +kernel
theorem d_World_runDeeds_111 : decode b_World_runDeeds 111 = .ok (.iconst 0, 1) := by decide +kernel
theorem d_World_runDeeds_112 : decode b_World_runDeeds 112 = .ok (.iload_n 2, 1) := by decide +kernel
theorem d_World_runDeeds_113 : decode b_World_runDeeds 113 = .ok (.invokevirtual 68, 3) := by decide +kernel
theorem d_World_runDeeds_116 : decode b_World_runDeeds 116 = .ok (.iadd, 1) := by decide +kernel
theorem d_World_runDeeds_117 : decode b_World_runDeeds 117 = .ok (.iastore, 1) := by decide +kernel
theorem d_World_runDeeds_118 : decode b_World_runDeeds 118 = .ok (.iconst 0, 1) := by decide +kernel
theorem d_World_runDeeds_119 : decode b_World_runDeeds 119 = .ok (.ireturn, 1) := by decide +kernel
theorem d_World_runDeeds_120 : decode b_World_runDeeds 120 = .ok (.aload_n 0, 1) := by decide +kernel
theorem d_World_runDeeds_121 : decode b_World_runDeeds 121 = .ok (.getfield 17, 3) := by decide +kernel
theorem d_World_runDeeds_124 : decode b_World_runDeeds 124 = .ok (.iload_n 1, 1) := by decide +kernel
theorem d_World_runDeeds_125 : decode b_World_runDeeds 125 = .ok (.aload_n 0, 1) := by decide +kernel
theorem d_World_runDeeds_126 : decode b_World_runDeeds 126 = .ok (.bipush 6, 2) := by decide +kernel
theorem d_World_runDeeds_128 : decode b_World_runDeeds 128 = .ok (.invokevirtual 65, 3) := by decide +kernel
theorem d_World_runDeeds_131 : decode b_World_runDeeds 131 = .ok (.iastore, 1) := by decide +kernel
theorem d_World_runDeeds_132 : decode b_World_runDeeds 132 = .ok (.aload_n 0, 1) := by decide +kernel
theorem d_World_runDeeds_133 : decode b_World_runDeeds 133 = .ok (.iconst 3, 1) := by decide +kernel
theorem d_World_runDeeds_134 : decode b_World_runDeeds 134 = .ok (.invokevirtual 65, 3) := by decide +kernel
theorem d_World_runDeeds_137 : decode b_World_runDeeds 137 = .ok (.pop, 1) := by decide +kernel
theorem d_World_runDeeds_138 : decode b_World_runDeeds 138 = .ok (.iconst 0, 1) := by decide +kernel
theorem d_World_runDeeds_139 : decode b_World_runDeeds 139 = .ok (.ireturn, 1) := by decide +kernel
theorem d_World_runDeeds_140 : decode b_World_runDeeds 140 = .ok (.aload_n 0, 1) := by decide +kernel
theorem d_World_runDeeds_141 : decode b_World_runDeeds 141 = .ok (.getfield 17, 3) := by decide +kernel
theorem d_World_runDeeds_144 : decode b_World_runDeeds 144 = .ok (.iload_n 1, 1) := by decide +kernel
theorem d_World_runDeeds_145 : decode b_World_runDeeds 145 = .ok (.aload_n 0, 1) := by decide +kernel
theorem d_World_runDeeds_146 : decode b_World_runDeeds 146 = .ok (.bipush 7, 2) := by decide +kernel
theorem d_World_runDeeds_148 : decode b_World_runDeeds 148 = .ok (.invokevirtual 65, 3) := by decide +kernel
theorem d_World_runDeeds_151 : decode b_World_runDeeds 151 = .ok (.iastore, 1) := by decide +kernel
theorem d_World_runDeeds_152 : decode b_World_runDeeds 152 = .ok (.bipush (-101), 2) := by decide +kernel
theorem d_World_runDeeds_154 : decode b_World_runDeeds 154 = .ok (.ireturn, 1) := by decide +kernel
theorem d_World_runDeeds_155 : decode b_World_runDeeds 155 = .ok (.aload_n 0, 1) := by decide +kernel
theorem d_World_runDeeds_156 : decode b_World_runDeeds 156 = .ok (.getfield 17, 3) := by decide +kernel
theorem d_World_runDeeds_159 : decode b_World_runDeeds 159 = .ok (.iload_n 1, 1) := by decide +kernel
theorem d_World_runDeeds_160 : decode b_World_runDeeds 160 = .ok (.aload_n 0, 1) := by decide +kernel
theorem d_World_runDeeds_161 : decode b_World_runDeeds 161 = .ok (.bipush 11, 2) := by decide +kernel
theorem d_World_runDeeds_163 : decode b_World_runDeeds 163 = .ok (.iload_n 2, 1) := by decide +kernel
theorem d_World_runDeeds_164 : decode b_World_runDeeds 164 = .ok (.invokevirtual 68, 3) := by decide +kernel
theorem d_World_runDeeds_167 : decode b_World_runDeeds 167 = .ok (.aload_n 0, 1) := by decide +kernel
theorem d_World_runDeeds_168 : decode b_World_runDeeds 168 = .ok (.bipush 30, 2) := by decide +kernel
theorem d_World_runDeeds_170 : decode b_World_runDeeds 170 = .ok (.invokevirtual 65, 3) := by decide +kernel
theorem d_World_runDeeds_173 : decode b_World_runDeeds 173 = .ok (.iadd, 1) := by decide +kernel
theorem d_World_runDeeds_174 : decode b_World_runDeeds 174 = .ok (.iastore, 1) := by decide +kernel
theorem d_World_runDeeds_175 : decode b_World_runDeeds 175 = .ok (.iconst 0, 1) := by decide +kernel
theorem d_World_runDeeds_176 : decode b_World_runDeeds 176 = .ok (.ireturn, 1) := by decide +kernel
theorem d_World_runDeeds_177 : decode b_World_runDeeds 177 = .ok (.aload_n 0, 1) := by decide +kernel
theorem d_World_runDeeds_178 : decode b_World_runDeeds 178 = .ok (.getfield 17, 3) := by decide +kernel
theorem d_World_runDeeds_181 : decode b_World_runDeeds 181 = .ok (.iload_n 1, 1) := by decide +kernel
theorem d_World_runDeeds_182 : decode b_World_runDeeds 182 = .ok (.aload_n 0, 1) := by decide +kernel
theorem d_World_runDeeds_183 : decode b_World_runDeeds 183 = .ok (.bipush 10, 2) := by decide +kernel
theorem d_World_runDeeds_185 : decode b_World_runDeeds 185 = .ok (.iload_n 2, 1) := by decide +kernel
theorem d_World_runDeeds_186 : decode b_World_runDeeds 186 = .ok (.invokevirtual 68, 3) := by decide +kernel
theorem d_World_runDeeds_189 : decode b_World_runDeeds 189 = .ok (.aload_n 0, 1) := by decide +kernel
theorem d_World_runDeeds_190 : decode b_World_runDeeds 190 = .ok (.bipush 40, 2) := by decide +kernel
theorem d_World_runDeeds_192 : decode b_World_runDeeds 192 = .ok (.invokevirtual 65, 3) := by decide +kernel
theorem d_World_runDeeds_195 : decode b_World_runDeeds 195 = .ok (.iadd, 1) := by decide +kernel
theorem d_World_runDeeds_196 : decode b_World_runDeeds 196 = .ok (.iastore, 1) := by decide +kernel
theorem d_World_runDeeds_197 : decode b_World_runDeeds 197 = .ok (.iconst 0, 1) := by decide +kernel
theorem d_World_runDeeds_198 : decode b_World_runDeeds 198 = .ok (.ireturn, 1) := by decide +kernel
theorem d_World_runDeeds_199 : decode b_World_runDeeds 199 = .ok (.aload_n 0, 1) := by decide +kernel
theorem d_World_runDeeds_200 : decode b_World_runDeeds 200 = .ok (.iload_n 1, 1) := by decide +kernel
theorem d_World_runDeeds_201 : decode b_World_runDeeds 201 = .ok (.invokevirtual 71, 3) := by decide +kernel
theorem d_World_runDeeds_204 : decode b_World_runDeeds 204 = .ok (.aload_n 0, 1) := by decide +kernel
theorem d_World_runDeeds_205 : decode b_World_runDeeds 205 = .ok (.bipush 14, 2) := by decide +kernel
theorem d_World_runDeeds_207 : decode b_World_runDeeds 207 = .ok (.invokevirtual 65, 3) := by decide +kernel
theorem d_World_runDeeds_210 : decode b_World_runDeeds 210 = .ok (.pop, 1) := by decide +kernel
theorem d_World_runDeeds_211 : decode b_World_runDeeds 211 = .ok (.iconst 0, 1) := by decide +kernel
theorem d_World_runDeeds_212 : decode b_World_runDeeds 212 = .ok (.ireturn, 1) := by decide +kernel
theorem d_World_runDeeds_213 : decode b_World_runDeeds 213 = .ok (.aload_n 0, 1) := by decide +kernel
theorem d_World_runDeeds_214 : decode b_World_runDeeds 214 = .ok (.bipush 16, 2) := by decide +kernel
theorem d_World_runDeeds_216 : decode b_World_runDeeds 216 = .ok (.invokevirtual 65, 3) := by decide +kernel
theorem d_World_runDeeds_219 : decode b_World_runDeeds 219 = .ok (.pop, 1) := by decide +kernel
theorem d_World_runDeeds_220 : decode b_World_runDeeds 220 = .ok (.aload_n 0, 1) := by decide +kernel
theorem d_World_runDeeds_221 : decode b_World_runDeeds 221 = .ok (.bipush 16, 2) := by decide +kernel
theorem d_World_runDeeds_223 : decode b_World_runDeeds 223 = .ok (.invokevirtual 65, 3) := by decide +kernel
theorem d_World_runDeeds_226 : decode b_World_runDeeds 226 = .ok (.pop, 1) := by decide +kernel
theorem d_World_runDeeds_227 : decode b_World_runDeeds 227 = .ok (.aload_n 0, 1) := by decide +kernel
theorem d_World_runDeeds_228 : decode b_World_runDeeds 228 = .ok (.getfield 17, 3) := by decide +kernel
theorem d_World_runDeeds_231 : decode b_World_runDeeds 231 = .ok (.iload_n 1, 1) := by decide +kernel
theorem d_World_runDeeds_232 : decode b_World_runDeeds 232 = .ok (.aload_n 0, 1) := by decide +kernel
theorem d_World_runDeeds_233 : decode b_World_runDeeds 233 = .ok (.bipush 17, 2) := by decide +kernel
theorem d_World_runDeeds_235 : decode b_World_runDeeds 235 = .ok (.invokevirtual 65, 3) := by decide +kernel
theorem d_World_runDeeds_238 : decode b_World_runDeeds 238 = .ok (.iastore, 1) := by decide +kernel
theorem d_World_runDeeds_239 : decode b_World_runDeeds 239 = .ok (.iconst 0, 1) := by decide +kernel
theorem d_World_runDeeds_240 : decode b_World_runDeeds 240 = .ok (.ireturn, 1) := by decide +kernel
theorem d_World_runDeeds_241 : decode b_World_runDeeds 241 = .ok (.aload_n 0, 1) := by decide +kernel
theorem d_World_runDeeds_242 : decode b_World_runDeeds 242 = .ok (.aload_n 0, 1) := by decide +kernel
theorem d_World_runDeeds_243 : decode b_World_runDeeds 243 = .ok (.getfield 27, 3) := by decide +kernel
theorem d_World_runDeeds_246 : decode b_World_runDeeds 246 = .ok (.putfield 75, 3) := by decide +kernel
theorem d_World_runDeeds_249 : decode b_World_runDeeds 249 = .ok (.aload_n 0, 1) := by decide +kernel
theorem d_World_runDeeds_250 : decode b_World_runDeeds 250 = .ok (.bipush 18, 2) := by decide +kernel
theorem d_World_runDeeds_252 : decode b_World_runDeeds 252 = .ok (.invokevirtual 65, 3) := by decide +kernel
theorem d_World_runDeeds_255 : decode b_World_runDeeds 255 = .ok (.pop, 1) := by decide +kernel
theorem d_World_runDeeds_256 : decode b_World_runDeeds 256 = .ok (.iconst 0, 1) := by decide +kernel
theorem d_World_runDeeds_257 : decode b_World_runDeeds 257 = .ok (.ireturn, 1) := by decide +kernel
theorem d_World_runDeeds_258 : decode b_World_runDeeds 258 = .ok (.aload_n 0, 1) := by decide +kernel
theorem d_World_runDeeds_259 : decode b_World_runDeeds 259 = .ok (.getfield 17, 3) := by decide +kernel
theorem d_World_runDeeds_262 : decode b_World_runDeeds 262 = .ok (.iload_n 1, 1) := by decide +kernel
theorem d_World_runDeeds_263 : decode b_World_runDeeds 263 = .ok (.aload_n 0, 1) := by decide +kernel
theorem d_World_runDeeds_264 : decode b_World_runDeeds 264 = .ok (.iload_n 1, 1) := by decide +kernel
theorem d_World_runDeeds_265 : decode b_World_runDeeds 265 = .ok (.invokestatic 78, 3) := by decide +kernel
theorem d_World_runDeeds_268 : decode b_World_runDeeds 268 = .ok (.invokevirtual 65, 3) := by decide +kernel
theorem d_World_runDeeds_271 : decode b_World_runDeeds 271 = .ok (.iastore, 1) := by decide +kernel
theorem d_World_runDeeds_272 : decode b_World_runDeeds 272 = .ok (.iconst 0, 1) := by decide +kernel
theorem d_World_runDeeds_273 : decode b_World_runDeeds 273 = .ok (.ireturn, 1) := by decide +kernel
theorem d_World_ask_0 : decode b_World_ask 0 = .ok (.aload_n 0, 1) := by decide +kernel
theorem d_World_ask_1 : decode b_World_ask 1 = .ok (.iload_n 1, 1) := by decide +kernel
theorem d_World_ask_2 : decode b_World_ask 2 = .ok (.iload_n 2, 1) := by decide +kernel
theorem d_World_ask_3 : decode b_World_ask 3 = .ok (.invokevirtual 31, 3) := by decide +kernel
theorem d_World_ask_6 : decode b_World_ask 6 = .ok (.pop, 1) := by decide +kernel
theorem d_World_ask_7 : decode b_World_ask 7 = .ok (.aload_n 0, 1) := by decide +kernel
theorem d_World_ask_8 : decode b_World_ask 8 = .ok (.getfield 17, 3) := by decide +kernel
theorem d_World_ask_11 : decode b_World_ask 11 = .ok (.iload_n 1, 1) := by decide +kernel
theorem d_World_ask_12 : decode b_World_ask 12 = .ok (.iaload, 1) := by decide +kernel
theorem d_World_ask_13 : decode b_World_ask 13 = .ok (.ireturn, 1) := by decide +kernel
theorem d_World_initialise_0 : decode b_World_initialise 0 = .ok (.aload_n 0, 1) := by decide +kernel
theorem d_World_initialise_1 : decode b_World_initialise 1 = .ok (.iload_n 1, 1) := by decide +kernel
theorem d_World_initialise_2 : decode b_World_initialise 2 = .ok (.iconst 0, 1) := by decide +kernel
theorem d_World_initialise_3 : decode b_World_initialise 3 = .ok (.invokevirtual 31, 3) := by decide +kernel
theorem d_World_initialise_6 : decode b_World_initialise 6 = .ok (.ireturn, 1) := by decide +kernel
theorem d_Acts_isThere_0 : decode b_Acts_isThere 0 = .ok (.iload_n 0, 1) := by decide +kernel
theorem d_Acts_isThere_1 : decode b_Acts_isThere 1 = .ok (.ifCond .lt 15, 3) := by decide +kernel
theorem d_Acts_isThere_4 : decode b_Acts_isThere 4 = .ok (.iload_n 0, 1) := by decide +kernel
theorem d_Acts_isThere_5 : decode b_Acts_isThere 5 = .ok (.getstatic 9, 3) := by decide +kernel
theorem d_Acts_isThere_8 : decode b_Acts_isThere 8 = .ok (.arraylength, 1) := by decide +kernel
theorem d_Acts_isThere_9 : decode b_Acts_isThere 9 = .ok (.if_icmp .ge 7, 3) := by decide +kernel
