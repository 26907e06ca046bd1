theorem d_Acts_isThere_12 : decode b_Acts_isThere 12 = .ok (.iconst 1, 1) := by decide +kernel
theorem d_Acts_isThere_13 : decode b_Acts_isThere 13 = .ok (.goto 4, 3) := by decide +kernel
theorem d_Acts_isThere_16 : decode b_Acts_isThere 16 = .ok (.iconst 0, 1) := by decide +kernel
theorem d_Acts_isThere_17 : decode b_Acts_isThere 17 = .ok (.ireturn, 1) := by decide +kernel
theorem d_Acts_isOdd_0 : decode b_Acts_isOdd 0 = .ok (.iload_n 0, 1) := by decide +kernel
theorem d_Acts_isOdd_1 : decode b_Acts_isOdd 1 = .ok (.iconst 1, 1) := by decide +kernel
theorem d_Acts_isOdd_2 : decode b_Acts_isOdd 2 = .ok (.iand, 1) := by decide +kernel
theorem d_Acts_isOdd_3 : decode b_Acts_isOdd 3 = .ok (.iconst 1, 1) := by decide +kernel
theorem d_Acts_isOdd_4 : decode b_Acts_isOdd 4 = .ok (.if_icmp .ne 7, 3) := by decide +kernel
theorem d_Acts_isOdd_7 : decode b_Acts_isOdd 7 = .ok (.iconst 1, 1) := by decide +kernel
theorem d_Acts_isOdd_8 : decode b_Acts_isOdd 8 = .ok (.goto 4, 3) := by decide +kernel
theorem d_Acts_isOdd_11 : decode b_Acts_isOdd 11 = .ok (.iconst 0, 1) := by decide +kernel
theorem d_Acts_isOdd_12 : decode b_Acts_isOdd 12 = .ok (.ireturn, 1) := by decide +kernel
theorem d_Acts_askedFirst_0 : decode b_Acts_askedFirst 0 = .ok (.iload_n 0, 1) := by decide +kernel
theorem d_Acts_askedFirst_1 : decode b_Acts_askedFirst 1 = .ok (.bipush 25, 2) := by decide +kernel
theorem d_Acts_askedFirst_3 : decode b_Acts_askedFirst 3 = .ok (.if_icmp .ne 14, 3) := by decide +kernel
theorem d_Acts_askedFirst_6 : decode b_Acts_askedFirst 6 = .ok (.iload_n 1, 1) := by decide +kernel
theorem d_Acts_askedFirst_7 : decode b_Acts_askedFirst 7 = .ok (.invokestatic 32, 3) := by decide +kernel
theorem d_Acts_askedFirst_10 : decode b_Acts_askedFirst 10 = .ok (.ifCond .ne 7, 3) := by decide +kernel
theorem d_Acts_askedFirst_13 : decode b_Acts_askedFirst 13 = .ok (.iconst 1, 1) := by decide +kernel
theorem d_Acts_askedFirst_14 : decode b_Acts_askedFirst 14 = .ok (.goto 4, 3) := by decide +kernel
theorem d_Acts_askedFirst_17 : decode b_Acts_askedFirst 17 = .ok (.iconst 0, 1) := by decide +kernel
theorem d_Acts_askedFirst_18 : decode b_Acts_askedFirst 18 = .ok (.istore_n 2, 1) := by decide +kernel
theorem d_Acts_askedFirst_19 : decode b_Acts_askedFirst 19 = .ok (.iload_n 2, 1) := by decide +kernel
theorem d_Acts_askedFirst_20 : decode b_Acts_askedFirst 20 = .ok (.ifCond .eq 7, 3) := by decide +kernel
theorem d_Acts_askedFirst_23 : decode b_Acts_askedFirst 23 = .ok (.iconst (-1), 1) := by decide +kernel
theorem d_Acts_askedFirst_24 : decode b_Acts_askedFirst 24 = .ok (.goto 8, 3) := by decide +kernel
theorem d_Acts_askedFirst_27 : decode b_Acts_askedFirst 27 = .ok (.getstatic 9, 3) := by decide +kernel
theorem d_Acts_askedFirst_30 : decode b_Acts_askedFirst 30 = .ok (.iload_n 0, 1) := by decide +kernel
theorem d_Acts_askedFirst_31 : decode b_Acts_askedFirst 31 = .ok (.iaload, 1) := by decide +kernel
theorem d_Acts_askedFirst_32 : decode b_Acts_askedFirst 32 = .ok (.ireturn, 1) := by decide +kernel
theorem d_Acts_askedThen_0 : decode b_Acts_askedThen 0 = .ok (.iload_n 0, 1) := by decide +kernel
theorem d_Acts_askedThen_1 : decode b_Acts_askedThen 1 = .ok (.lookupswitch 32 #[(9, 27), (18, 29)], 27) := by decide +kernel
theorem d_Acts_askedThen_28 : decode b_Acts_askedThen 28 = .ok (.iconst 3, 1) := by decide +kernel
theorem d_Acts_askedThen_29 : decode b_Acts_askedThen 29 = .ok (.ireturn, 1) := by decide +kernel
theorem d_Acts_askedThen_30 : decode b_Acts_askedThen 30 = .ok (.bipush 13, 2) := by decide +kernel
theorem d_Acts_askedThen_32 : decode b_Acts_askedThen 32 = .ok (.ireturn, 1) := by decide +kernel
theorem d_Acts_askedThen_33 : decode b_Acts_askedThen 33 = .ok (.iconst (-1), 1) := by decide +kernel
theorem d_Acts_askedThen_34 : decode b_Acts_askedThen 34 = .ok (.ireturn, 1) := by decide +kernel
theorem d_Acts_told_0 : decode b_Acts_told 0 = .ok (.aload_n 0, 1) := by decide +kernel
theorem d_Acts_told_1 : decode b_Acts_told 1 = .ok (.getfield 38, 3) := by decide +kernel
theorem d_Acts_told_4 : decode b_Acts_told 4 = .ok (.astore_n 3, 1) := by decide +kernel
theorem d_Acts_told_5 : decode b_Acts_told 5 = .ok (.iload_n 1, 1) := by decide +kernel
theorem d_Acts_told_6 : decode b_Acts_told 6 = .ok (.tableswitch 270 0 29 #[134, 270, 145, 151, 270, 154, 156, 270, 270, 158, 166, 270, 270, 168, 270, 171, 270, 270, 173, 176, 195, 208, 230, 254, 270, 257, 260, 270, 270, 267], 134) := by decide +kernel
theorem d_Acts_told_140 : decode b_Acts_told 140 = .ok (.aload_n 3, 1) := by decide +kernel
theorem d_Acts_told_141 : decode b_Acts_told 141 = .ok (.iconst 0, 1) := by decide +kernel
theorem d_Acts_told_142 : decode b_Acts_told 142 = .ok (.dup2, 1) := by decide +kernel
theorem d_Acts_told_143 : decode b_Acts_told 143 = .ok (.iaload, 1) := by decide +kernel
theorem d_Acts_told_144 : decode b_Acts_told 144 = .ok (.iload_n 2, 1) := by decide +kernel
theorem d_Acts_told_145 : decode b_Acts_told 145 = .ok (.iadd, 1) := by decide +kernel
theorem d_Acts_told_146 : decode b_Acts_told 146 = .ok (.iastore, 1) := by decide +kernel
theorem d_Acts_told_147 : decode b_Acts_told 147 = .ok (.aload_n 3, 1) := by decide +kernel
theorem d_Acts_told_148 : decode b_Acts_told 148 = .ok (.iconst 0, 1) := by decide +kernel
theorem d_Acts_told_149 : decode b_Acts_told 149 = .ok (.iaload, 1) := by decide +kernel
theorem d_Acts_told_150 : decode b_Acts_told 150 = .ok (.ireturn, 1) := by decide +kernel
theorem d_Acts_told_151 : decode b_Acts_told 151 = .ok (.aload_n 3, 1) := by decide +kernel
theorem d_Acts_told_152 : decode b_Acts_told 152 = .ok (.iconst 1, 1) := by decide +kernel
theorem d_Acts_told_153 : decode b_Acts_told 153 = .ok (.iload_n 2, 1) := by decide +kernel
theorem d_Acts_told_154 : decode b_Acts_told 154 = .ok (.iastore, 1) := by decide +kernel
theorem d_Acts_told_155 : decode b_Acts_told 155 = .ok (.iload_n 2, 1) := by decide +kernel
theorem d_Acts_told_156 : decode b_Acts_told 156 = .ok (.ireturn, 1) := by decide +kernel
theorem d_Acts_told_157 : decode b_Acts_told 157 = .ok (.bipush 70, 2) := by decide +kernel
theorem d_Acts_told_159 : decode b_Acts_told 159 = .ok (.ireturn, 1) := by decide +kernel
theorem d_Acts_told_160 : decode b_Acts_told 160 = .ok (.iconst 5, 1) := by decide +kernel
theorem d_Acts_told_161 : decode b_Acts_told 161 = .ok (.ireturn, 1) := by decide +kernel
theorem d_Acts_told_162 : decode b_Acts_told 162 = .ok (.iconst 2, 1) := by decide +kernel
theorem d_Acts_told_163 : decode b_Acts_told 163 = .ok (.ireturn, 1) := by decide +kernel
theorem d_Acts_told_164 : decode b_Acts_told 164 = .ok (.aload_n 3, 1) := by decide +kernel
theorem d_Acts_told_165 : decode b_Acts_told 165 = .ok (.iconst 4, 1) := by decide +kernel
theorem d_Acts_told_166 : decode b_Acts_told 166 = .ok (.iaload, 1) := by decide +kernel
theorem d_Acts_told_167 : decode b_Acts_told 167 = .ok (.aload_n 3, 1) := by decide +kernel
theorem d_Acts_told_168 : decode b_Acts_told 168 = .ok (.iconst 3, 1) := by decide +kernel
theorem d_Acts_told_169 : decode b_Acts_told 169 = .ok (.iaload, 1) := by decide +kernel
theorem d_Acts_told_170 : decode b_Acts_told 170 = .ok (.iadd, 1) := by decide +kernel
theorem d_Acts_told_171 : decode b_Acts_told 171 = .ok (.ireturn, 1) := by decide +kernel
theorem d_Acts_told_172 : decode b_Acts_told 172 = .ok (.iconst 1, 1) := by decide +kernel
theorem d_Acts_told_173 : decode b_Acts_told 173 = .ok (.ireturn, 1) := by decide +kernel
theorem d_Acts_told_174 : decode b_Acts_told 174 = .ok (.bipush 71, 2) := by decide +kernel
theorem d_Acts_told_176 : decode b_Acts_told 176 = .ok (.ireturn, 1) := by decide +kernel
theorem d_Acts_told_177 : decode b_Acts_told 177 = .ok (.iconst 0, 1) := by decide +kernel
theorem d_Acts_told_178 : decode b_Acts_told 178 = .ok (.ireturn, 1) := by decide +kernel
theorem d_Acts_told_179 : decode b_Acts_told 179 = .ok (.bipush 20, 2) := by decide +kernel
theorem d_Acts_told_181 : decode b_Acts_told 181 = .ok (.ireturn, 1) := by decide +kernel
theorem d_Acts_told_182 : decode b_Acts_told 182 = .ok (.iload_n 2, 1) := by decide +kernel
theorem d_Acts_told_183 : decode b_Acts_told 183 = .ok (.invokestatic 32, 3) := by decide +kernel
theorem d_Acts_told_186 : decode b_Acts_told 186 = .ok (.ifCond .eq 8, 3) := by decide +kernel
theorem d_Acts_told_189 : decode b_Acts_told 189 = .ok (.bipush 18, 2) := by decide +kernel
theorem d_Acts_told_191 : decode b_Acts_told 191 = .ok (.goto 4, 3) := by decide +kernel
theorem d_Acts_told_194 : decode b_Acts_told 194 = .ok (.iconst 3, 1) := by decide +kernel
theorem d_Acts_told_195 : decode b_Acts_told 195 = .ok (.aload_n 3, 1) := by decide +kernel
theorem d_Acts_told_196 : decode b_Acts_told 196 = .ok (.bipush 14, 2) := by decide +kernel
theorem d_Acts_told_198 : decode b_Acts_told 198 = .ok (.iaload, 1) := by decide +kernel
theorem d_Acts_told_199 : decode b_Acts_told 199 = .ok (.iadd, 1) := by decide +kernel
theorem d_Acts_told_200 : decode b_Acts_told 200 = .ok (.ireturn, 1) := by decide +kernel
theorem d_Acts_told_201 : decode b_Acts_told 201 = .ok (.iload_n 2, 1) := by decide +kernel
theorem d_Acts_told_202 : decode b_Acts_told 202 = .ok (.invokestatic 32, 3) := by decide +kernel
theorem d_Acts_told_205 : decode b_Acts_told 205 = .ok (.ifCond .eq 7, 3) := by decide +kernel
theorem d_Acts_told_208 : decode b_Acts_told 208 = .ok (.iconst 1, 1) := by decide +kernel
theorem d_Acts_told_209 : decode b_Acts_told 209 = .ok (.goto 4, 3) := by decide +kernel
theorem d_Acts_told_212 : decode b_Acts_told 212 = .ok (.iconst 0, 1) := by decide +kernel
theorem d_Acts_told_213 : decode b_Acts_told 213 = .ok (.ireturn, 1) := by decide +kernel
theorem d_Acts_told_214 : decode b_Acts_told 214 = .ok (.aload_n 0, 1) := by decide +kernel
theorem d_Acts_told_215 : decode b_Acts_told 215 = .ok (.getfield 41, 3) := by decide +kernel
theorem d_Acts_told_218 : decode b_Acts_told 218 = .ok (.ifCond .eq 12, 3) := by decide +kernel
theorem d_Acts_told_221 : decode b_Acts_told 221 = .ok (.iload_n 2, 1) := by decide +kernel
theorem d_Acts_told_222 : decode b_Acts_told 222 = .ok (.ifCond .gt 8, 3) := by decide +kernel
theorem d_Acts_told_225 : decode b_Acts_told 225 = .ok (.bipush (-103), 2) := by decide +kernel
theorem d_Acts_told_227 : decode b_Acts_told 227 = .ok (.goto 8, 3) := by decide +kernel
theorem d_Acts_told_230 : decode b_Acts_told 230 = .ok (.iload_n 2, 1) := by decide +kernel
theorem d_Acts_told_231 : decode b_Acts_told 231 = .ok (.sipush 1000, 3) := by decide +kernel
theorem d_Acts_told_234 : decode b_Acts_told 234 = .ok (.iadd, 1) := by decide +kernel
theorem d_Acts_told_235 : decode b_Acts_told 235 = .ok (.ireturn, 1) := by decide +kernel
theorem d_Acts_told_236 : decode b_Acts_told 236 = .ok (.aload_n 3, 1) := by decide +kernel
theorem d_Acts_told_237 : decode b_Acts_told 237 = .ok (.bipush 16, 2) := by decide +kernel
theorem d_Acts_told_239 : decode b_Acts_told 239 = .ok (.dup2, 1) := by decide +kernel
theorem d_Acts_told_240 : decode b_Acts_told 240 = .ok (.iaload, 1) := by decide +kernel
theorem d_Acts_told_241 : decode b_Acts_told 241 = .ok (.iload_n 2, 1) := by decide +kernel
theorem d_Acts_told_242 : decode b_Acts_told 242 = .ok (.invokestatic 32, 3) := by decide +kernel
theorem d_Acts_told_245 : decode b_Acts_told 245 = .ok (.ifCond .eq 7, 3) := by decide +kernel
theorem d_Acts_told_248 : decode b_Acts_told 248 = .ok (.iconst 3, 1) := by decide +kernel
theorem d_Acts_told_249 : decode b_Acts_told 249 = .ok (.goto 4, 3) := by decide +kernel
theorem d_Acts_told_252 : decode b_Acts_told 252 = .ok (.iconst 2, 1) := by decide +kernel
theorem d_Acts_told_253 : decode b_Acts_told 253 = .ok (.iadd, 1) := by decide +kernel
theorem d_Acts_told_254 : decode b_Acts_told 254 = .ok (.iastore, 1) := by decide +kernel
theorem d_Acts_told_255 : decode b_Acts_told 255 = .ok (.aload_n 3, 1) := by decide +kernel
theorem d_Acts_told_256 : decode b_Acts_told 256 = .ok (.bipush 16, 2) := by decide +kernel
theorem d_Acts_told_258 : decode b_Acts_told 258 = .ok (.iaload, 1) := by decide +kernel
theorem d_Acts_told_259 : decode b_Acts_told 259 = .ok (.ireturn, 1) := by decide +kernel
theorem d_Acts_told_260 : decode b_Acts_told 260 = .ok (.bipush 20, 2) := by decide +kernel
theorem d_Acts_told_262 : decode b_Acts_told 262 = .ok (.ireturn, 1) := by decide +kernel
theorem d_Acts_told_263 : decode b_Acts_told 263 = .ok (.bipush 18, 2) := by decide +kernel
theorem d_Acts_told_265 : decode b_Acts_told 265 = .ok (.ireturn, 1) := by decide +kernel
theorem d_Acts_told_266 : decode b_Acts_told 266 = .ok (.aload_n 0, 1) := by decide +kernel
theorem d_Acts_told_267 : decode b_Acts_told 267 = .ok (.iconst 2, 1) := by decide +kernel
theorem d_Acts_told_268 : decode b_Acts_told 268 = .ok (.invokevirtual 45, 3) := by decide +kernel
theorem d_Acts_told_271 : decode b_Acts_told 271 = .ok (.iconst 1, 1) := by decide +kernel
theorem d_Acts_told_272 : decode b_Acts_told 272 = .ok (.ireturn, 1) := by decide +kernel
theorem d_Acts_told_273 : decode b_Acts_told 273 = .ok (.bipush (-104), 2) := by decide +kernel
theorem d_Acts_told_275 : decode b_Acts_told 275 = .ok (.ireturn, 1) := by decide +kernel
theorem d_Acts_told_276 : decode b_Acts_told 276 = .ok (.aload_n 3, 1) := by decide +kernel
theorem d_Acts_told_277 : decode b_Acts_told 277 = .ok (.getstatic 9, 3) := by decide +kernel
theorem d_Acts_told_280 : decode b_Acts_told 280 = .ok (.iload_n 1, 1) := by decide +kernel
theorem d_Acts_told_281 : decode b_Acts_told 281 = .ok (.iaload, 1) := by decide +kernel
theorem d_Acts_told_282 : decode b_Acts_told 282 = .ok (.iaload, 1) := by decide +kernel
theorem d_Acts_told_283 : decode b_Acts_told 283 = .ok (.ireturn, 1) := by decide +kernel
theorem d_Acts_outcome_0 : decode b_Acts_outcome 0 = .ok (.aload_n 0, 1) := by decide +kernel
theorem d_Acts_outcome_1 : decode b_Acts_outcome 1 = .ok (.iload_n 1, 1) := by decide +kernel
theorem d_Acts_outcome_2 : decode b_Acts_outcome 2 = .ok (.iload_n 2, 1) := by decide +kernel
theorem d_Acts_outcome_3 : decode b_Acts_outcome 3 = .ok (.invokestatic 15, 3) := by decide +kernel
theorem d_Acts_outcome_6 : decode b_Acts_outcome 6 = .ok (.invokevirtual 19, 3) := by decide +kernel
theorem d_Acts_outcome_9 : decode b_Acts_outcome 9 = .ok (.istore_n 3, 1) := by decide +kernel
theorem d_Acts_outcome_10 : decode b_Acts_outcome 10 = .ok (.iload_n 3, 1) := by decide +kernel
theorem d_Acts_outcome_11 : decode b_Acts_outcome 11 = .ok (.ifCond .ne 12, 3) := by decide +kernel
theorem d_Acts_outcome_14 : decode b_Acts_outcome 14 = .ok (.aload_n 0, 1) := by decide +kernel
theorem d_Acts_outcome_15 : decode b_Acts_outcome 15 = .ok (.iload_n 1, 1) := by decide +kernel
theorem d_Acts_outcome_16 : decode b_Acts_outcome 16 = .ok (.invokestatic 25, 3) := by decide +kernel
theorem d_Acts_outcome_19 : decode b_Acts_outcome 19 = .ok (.invokevirtual 19, 3) := by decide +kernel
theorem d_Acts_outcome_22 : decode b_Acts_outcome 22 = .ok (.istore_n 3, 1) := by decide +kernel
theorem d_Acts_outcome_23 : decode b_Acts_outcome 23 = .ok (.iload_n 3, 1) := by decide +kernel
theorem d_Acts_outcome_24 : decode b_Acts_outcome 24 = .ok (.ifCond .ne 12, 3) := by decide +kernel
theorem d_Acts_outcome_27 : decode b_Acts_outcome 27 = .ok (.aload_n 0, 1) := by decide +kernel
theorem d_Acts_outcome_28 : decode b_Acts_outcome 28 = .ok (.iload_n 1, 1) := by decide +kernel
theorem d_Acts_outcome_29 : decode b_Acts_outcome 29 = .ok (.iload_n 2, 1) := by decide +kernel
theorem d_Acts_outcome_30 : decode b_Acts_outcome 30 = .ok (.invokestatic 28, 3) := by decide +kernel
theorem d_Acts_outcome_33 : decode b_Acts_outcome 33 = .ok (.goto 4, 3) := by decide +kernel
theorem d_Acts_outcome_36 : decode b_Acts_outcome 36 = .ok (.iload_n 3, 1) := by decide +kernel
theorem d_Acts_outcome_37 : decode b_Acts_outcome 37 = .ok (.ireturn, 1) := by decide +kernel
theorem d_Suite_isSlot_0 : decode b_Suite_isSlot 0 = .ok (.iload_n 0, 1) := by decide +kernel
theorem d_Suite_isSlot_1 : decode b_Suite_isSlot 1 = .ok (.ifCond .lt 13, 3) := by decide +kernel
theorem d_Suite_isSlot_4 : decode b_Suite_isSlot 4 = .ok (.iload_n 0, 1) := by decide +kernel
theorem d_Suite_isSlot_5 : decode b_Suite_isSlot 5 = .ok (.bipush 6, 2) := by decide +kernel
theorem d_Suite_isSlot_7 : decode b_Suite_isSlot 7 = .ok (.if_icmp .ge 7, 3) := by decide +kernel
theorem d_Suite_isSlot_10 : decode b_Suite_isSlot 10 = .ok (.iconst 1, 1) := by decide +kernel
theorem d_Suite_isSlot_11 : decode b_Suite_isSlot 11 = .ok (.goto 4, 3) := by decide +kernel
theorem d_Suite_isSlot_14 : decode b_Suite_isSlot 14 = .ok (.iconst 0, 1) := by decide +kernel
theorem d_Suite_isSlot_15 : decode b_Suite_isSlot 15 = .ok (.ireturn, 1) := by decide +kernel
theorem d_Suite_isFilled_0 : decode b_Suite_isFilled 0 = .ok (.iload_n 1, 1) := by decide +kernel
theorem d_Suite_isFilled_1 : decode b_Suite_isFilled 1 = .ok (.invokestatic 57, 3) := by decide +kernel
theorem d_Suite_isFilled_4 : decode b_Suite_isFilled 4 = .ok (.ifCond .eq 17, 3) := by decide +kernel
theorem d_Suite_isFilled_7 : decode b_Suite_isFilled 7 = .ok (.aload_n 0, 1) := by decide +kernel
theorem d_Suite_isFilled_8 : decode b_Suite_isFilled 8 = .ok (.getfield 15, 3) := by decide +kernel
theorem d_Suite_isFilled_11 : decode b_Suite_isFilled 11 = .ok (.iload_n 1, 1) := by decide +kernel
theorem d_Suite_isFilled_12 : decode b_Suite_isFilled 12 = .ok (.iaload, 1) := by decide +kernel
theorem d_Suite_isFilled_13 : decode b_Suite_isFilled 13 = .ok (.iconst (-1), 1) := by decide +kernel
theorem d_Suite_isFilled_14 : decode b_Suite_isFilled 14 = .ok (.if_icmp .eq 7, 3) := by decide +kernel
theorem d_Suite_isFilled_17 : decode b_Suite_isFilled 17 = .ok (.iconst 1, 1) := by decide +kernel
theorem d_Suite_isFilled_18 : decode b_Suite_isFilled 18 = .ok (.goto 4, 3) := by decide +kernel
theorem d_Suite_isFilled_21 : decode b_Suite_isFilled 21 = .ok (.iconst 0, 1) := by decide +kernel
theorem d_Suite_isFilled_22 : decode b_Suite_isFilled 22 = .ok (.ireturn, 1) := by decide +kernel
theorem d_Suite_asserting_0 : decode b_Suite_asserting 0 = .ok (.aload_n 0, 1) := by decide +kernel
theorem d_Suite_asserting_1 : decode b_Suite_asserting 1 = .ok (.getfield 29, 3) := by decide +kernel
theorem d_Suite_asserting_4 : decode b_Suite_asserting 4 = .ok (.ifnonnull 6, 3) := by decide +kernel
theorem d_Suite_asserting_7 : decode b_Suite_asserting 7 = .ok (.bipush (-2), 2) := by decide +kernel
theorem d_Suite_asserting_9 : decode b_Suite_asserting 9 = .ok (.ireturn, 1) := by decide +kernel
theorem d_Suite_asserting_10 : decode b_Suite_asserting 10 = .ok (.aload_n 0, 1) := by decide +kernel
theorem d_Suite_asserting_11 : decode b_Suite_asserting 11 = .ok (.getfield 29, 3) := by decide +kernel
theorem d_Suite_asserting_14 : decode b_Suite_asserting 14 = .ok (.iload_n 1, 1) := by decide +kernel
theorem d_Suite_asserting_15 : decode b_Suite_asserting 15 = .ok (.putfield 36, 3) := by decide +kernel
theorem d_Suite_asserting_18 : decode b_Suite_asserting 18 = .ok (.iconst 0, 1) := by decide +kernel
theorem d_Suite_asserting_19 : decode b_Suite_asserting 19 = .ok (.ireturn, 1) := by decide +kernel
theorem d_Suite_act_0 : decode b_Suite_act 0 = .ok (.iload_n 1, 1) := by decide +kernel
theorem d_Suite_act_1 : decode b_Suite_act 1 = .ok (.invokestatic 40, 3) := by decide +kernel
theorem d_Suite_act_4 : decode b_Suite_act 4 = .ok (.ifCond .ne 5, 3) := by decide +kernel
theorem d_Suite_act_7 : decode b_Suite_act 7 = .ok (.iconst (-1), 1) := by decide +kernel
theorem d_Suite_act_8 : decode b_Suite_act 8 = .ok (.ireturn, 1) := by decide +kernel
theorem d_Suite_act_9 : decode b_Suite_act 9 = .ok (.aload_n 0, 1) := by decide +kernel
theorem d_Suite_act_10 : decode b_Suite_act 10 = .ok (.getfield 29, 3) := by decide +kernel
theorem d_Suite_act_13 : decode b_Suite_act 13 = .ok (.ifnonnull 6, 3) := by decide +kernel
theorem d_Suite_act_16 : decode b_Suite_act 16 = .ok (.bipush (-2), 2) := by decide +kernel
theorem d_Suite_act_18 : decode b_Suite_act 18 = .ok (.ireturn, 1) := by decide +kernel
theorem d_Suite_act_19 : decode b_Suite_act 19 = .ok (.aload_n 0, 1) := by decide +kernel
theorem d_Suite_act_20 : decode b_Suite_act 20 = .ok (.getfield 29, 3) := by decide +kernel
theorem d_Suite_act_23 : decode b_Suite_act 23 = .ok (.iload_n 1, 1) := by decide +kernel
theorem d_Suite_act_24 : decode b_Suite_act 24 = .ok (.iload_n 2, 1) := by decide +kernel
theorem d_Suite_act_25 : decode b_Suite_act 25 = .ok (.invokestatic 46, 3) := by decide +kernel
theorem d_Suite_act_28 : decode b_Suite_act 28 = .ok (.ireturn, 1) := by decide +kernel
theorem d_Suite_find_0 : decode b_Suite_find 0 = .ok (.iload_n 1, 1) := by decide +kernel
theorem d_Suite_find_1 : decode b_Suite_find 1 = .ok (.invokestatic 50, 3) := by decide +kernel
theorem d_Suite_find_4 : decode b_Suite_find 4 = .ok (.ifCond .ne 5, 3) := by decide +kernel
theorem d_Suite_find_7 : decode b_Suite_find 7 = .ok (.iconst (-1), 1) := by decide +kernel
