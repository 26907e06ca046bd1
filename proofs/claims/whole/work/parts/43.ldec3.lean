theorem d_law_226 : decode code 226 = .ok (.iadd, 1) := by decide +kernel
theorem d_law_227 : decode code 227 = .ok (.iaload, 1) := by decide +kernel
theorem d_law_228 : decode code 228 = .ok (.aload_n 0, 1) := by decide +kernel
theorem d_law_229 : decode code 229 = .ok (.iload_n 3, 1) := by decide +kernel
theorem d_law_230 : decode code 230 = .ok (.iconst 2, 1) := by decide +kernel
theorem d_law_231 : decode code 231 = .ok (.iadd, 1) := by decide +kernel
theorem d_law_232 : decode code 232 = .ok (.iaload, 1) := by decide +kernel
theorem d_law_233 : decode code 233 = .ok (.ifCond .eq 7, 3) := by decide +kernel
theorem d_law_236 : decode code 236 = .ok (.iconst 1, 1) := by decide +kernel
theorem d_law_237 : decode code 237 = .ok (.goto 4, 3) := by decide +kernel
theorem d_law_240 : decode code 240 = .ok (.iconst 0, 1) := by decide +kernel
theorem d_law_241 : decode code 241 = .ok (.invokevirtual 32, 3) := by decide +kernel
theorem d_law_244 : decode code 244 = .ok (.aload_n 2, 1) := by decide +kernel
theorem d_law_245 : decode code 245 = .ok (.aload_n 0, 1) := by decide +kernel
theorem d_law_246 : decode code 246 = .ok (.iload_n 3, 1) := by decide +kernel
theorem d_law_247 : decode code 247 = .ok (.iconst 1, 1) := by decide +kernel
theorem d_law_248 : decode code 248 = .ok (.iadd, 1) := by decide +kernel
theorem d_law_249 : decode code 249 = .ok (.iaload, 1) := by decide +kernel
theorem d_law_250 : decode code 250 = .ok (.aload_n 0, 1) := by decide +kernel
theorem d_law_251 : decode code 251 = .ok (.iload_n 3, 1) := by decide +kernel
theorem d_law_252 : decode code 252 = .ok (.iconst 2, 1) := by decide +kernel
theorem d_law_253 : decode code 253 = .ok (.iadd, 1) := by decide +kernel
theorem d_law_254 : decode code 254 = .ok (.iaload, 1) := by decide +kernel
theorem d_law_255 : decode code 255 = .ok (.ifCond .eq 7, 3) := by decide +kernel
theorem d_law_258 : decode code 258 = .ok (.iconst 1, 1) := by decide +kernel
theorem d_law_259 : decode code 259 = .ok (.goto 4, 3) := by decide +kernel
theorem d_law_262 : decode code 262 = .ok (.iconst 0, 1) := by decide +kernel
theorem d_law_263 : decode code 263 = .ok (.invokevirtual 36, 3) := by decide +kernel
theorem d_law_266 : decode code 266 = .ok (.if_icmp .eq 150, 3) := by decide +kernel
theorem d_law_269 : decode code 269 = .ok (.iconst 0, 1) := by decide +kernel
theorem d_law_270 : decode code 270 = .ok (.ireturn, 1) := by decide +kernel
theorem d_law_271 : decode code 271 = .ok (.aload_n 1, 1) := by decide +kernel
theorem d_law_272 : decode code 272 = .ok (.aload_n 0, 1) := by decide +kernel
theorem d_law_273 : decode code 273 = .ok (.iload_n 3, 1) := by decide +kernel
theorem d_law_274 : decode code 274 = .ok (.iconst 1, 1) := by decide +kernel
theorem d_law_275 : decode code 275 = .ok (.iadd, 1) := by decide +kernel
theorem d_law_276 : decode code 276 = .ok (.iaload, 1) := by decide +kernel
theorem d_law_277 : decode code 277 = .ok (.aload_n 0, 1) := by decide +kernel
theorem d_law_278 : decode code 278 = .ok (.iload_n 3, 1) := by decide +kernel
theorem d_law_279 : decode code 279 = .ok (.iconst 2, 1) := by decide +kernel
theorem d_law_280 : decode code 280 = .ok (.iadd, 1) := by decide +kernel
theorem d_law_281 : decode code 281 = .ok (.iaload, 1) := by decide +kernel
theorem d_law_282 : decode code 282 = .ok (.invokevirtual 37, 3) := by decide +kernel
theorem d_law_285 : decode code 285 = .ok (.aload_n 2, 1) := by decide +kernel
theorem d_law_286 : decode code 286 = .ok (.aload_n 0, 1) := by decide +kernel
theorem d_law_287 : decode code 287 = .ok (.iload_n 3, 1) := by decide +kernel
theorem d_law_288 : decode code 288 = .ok (.iconst 1, 1) := by decide +kernel
theorem d_law_289 : decode code 289 = .ok (.iadd, 1) := by decide +kernel
theorem d_law_290 : decode code 290 = .ok (.iaload, 1) := by decide +kernel
theorem d_law_291 : decode code 291 = .ok (.aload_n 0, 1) := by decide +kernel
theorem d_law_292 : decode code 292 = .ok (.iload_n 3, 1) := by decide +kernel
theorem d_law_293 : decode code 293 = .ok (.iconst 2, 1) := by decide +kernel
theorem d_law_294 : decode code 294 = .ok (.iadd, 1) := by decide +kernel
theorem d_law_295 : decode code 295 = .ok (.iaload, 1) := by decide +kernel
theorem d_law_296 : decode code 296 = .ok (.invokevirtual 40, 3) := by decide +kernel
theorem d_law_299 : decode code 299 = .ok (.if_icmp .eq 117, 3) := by decide +kernel
theorem d_law_302 : decode code 302 = .ok (.iconst 0, 1) := by decide +kernel
theorem d_law_303 : decode code 303 = .ok (.ireturn, 1) := by decide +kernel
theorem d_law_304 : decode code 304 = .ok (.aload_n 1, 1) := by decide +kernel
theorem d_law_305 : decode code 305 = .ok (.aload_n 0, 1) := by decide +kernel
