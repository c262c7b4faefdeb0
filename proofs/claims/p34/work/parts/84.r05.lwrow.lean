theorem dL_crossings_223 : decode cL_crossings 223 = .ok (.iconst 0, 1) := by decide +kernel
theorem dL_crossings_224 : decode cL_crossings 224 = .ok (.invokevirtual 50, 3) := by decide +kernel
theorem dL_crossings_227 : decode cL_crossings 227 = .ok (.ifCond .ne 186, 3) := by decide +kernel
theorem dL_crossings_230 : decode cL_crossings 230 = .ok (.aload_n 0, 1) := by decide +kernel
theorem dL_crossings_231 : decode cL_crossings 231 = .ok (.iconst 4, 1) := by decide +kernel
theorem dL_crossings_232 : decode cL_crossings 232 = .ok (.iconst 0, 1) := by decide +kernel
theorem dL_crossings_233 : decode cL_crossings 233 = .ok (.invokevirtual 50, 3) := by decide +kernel
theorem dL_crossings_236 : decode cL_crossings 236 = .ok (.iconst 1, 1) := by decide +kernel
theorem dL_crossings_237 : decode cL_crossings 237 = .ok (.if_icmp .ne 176, 3) := by decide +kernel
theorem dL_crossings_240 : decode cL_crossings 240 = .ok (.aload_n 0, 1) := by decide +kernel
theorem dL_crossings_241 : decode cL_crossings 241 = .ok (.bipush 8, 2) := by decide +kernel
theorem dL_crossings_243 : decode cL_crossings 243 = .ok (.iconst 0, 1) := by decide +kernel
theorem dL_crossings_244 : decode cL_crossings 244 = .ok (.invokevirtual 50, 3) := by decide +kernel
theorem dL_crossings_247 : decode cL_crossings 247 = .ok (.iconst 1, 1) := by decide +kernel
theorem dL_crossings_248 : decode cL_crossings 248 = .ok (.if_icmp .ne 165, 3) := by decide +kernel
theorem dL_crossings_251 : decode cL_crossings 251 = .ok (.aload_n 0, 1) := by decide +kernel
theorem dL_crossings_252 : decode cL_crossings 252 = .ok (.bipush 9, 2) := by decide +kernel
theorem dL_crossings_254 : decode cL_crossings 254 = .ok (.iconst 0, 1) := by decide +kernel
theorem dL_crossings_255 : decode cL_crossings 255 = .ok (.invokevirtual 50, 3) := by decide +kernel
theorem dL_crossings_258 : decode cL_crossings 258 = .ok (.iconst 2, 1) := by decide +kernel
theorem dL_crossings_259 : decode cL_crossings 259 = .ok (.if_icmp .ne 154, 3) := by decide +kernel
theorem dL_crossings_262 : decode cL_crossings 262 = .ok (.aload_n 0, 1) := by decide +kernel
theorem dL_crossings_263 : decode cL_crossings 263 = .ok (.bipush 10, 2) := by decide +kernel
theorem dL_crossings_265 : decode cL_crossings 265 = .ok (.iconst 0, 1) := by decide +kernel
theorem dL_crossings_266 : decode cL_crossings 266 = .ok (.invokevirtual 50, 3) := by decide +kernel
theorem dL_crossings_269 : decode cL_crossings 269 = .ok (.iconst 2, 1) := by decide +kernel
theorem dL_crossings_270 : decode cL_crossings 270 = .ok (.if_icmp .ne 143, 3) := by decide +kernel
theorem dL_crossings_273 : decode cL_crossings 273 = .ok (.aload_n 0, 1) := by decide +kernel
theorem dL_crossings_274 : decode cL_crossings 274 = .ok (.bipush 15, 2) := by decide +kernel
theorem dL_crossings_276 : decode cL_crossings 276 = .ok (.iconst 0, 1) := by decide +kernel
theorem dL_crossings_277 : decode cL_crossings 277 = .ok (.invokevirtual 50, 3) := by decide +kernel
theorem dL_crossings_280 : decode cL_crossings 280 = .ok (.iconst 1, 1) := by decide +kernel
theorem dL_crossings_281 : decode cL_crossings 281 = .ok (.if_icmp .ne 132, 3) := by decide +kernel
theorem dL_crossings_284 : decode cL_crossings 284 = .ok (.aload_n 0, 1) := by decide +kernel
theorem dL_crossings_285 : decode cL_crossings 285 = .ok (.bipush 16, 2) := by decide +kernel
theorem dL_crossings_287 : decode cL_crossings 287 = .ok (.iconst 0, 1) := by decide +kernel
theorem dL_crossings_288 : decode cL_crossings 288 = .ok (.invokevirtual 50, 3) := by decide +kernel
theorem dL_crossings_291 : decode cL_crossings 291 = .ok (.ifCond .ne 122, 3) := by decide +kernel
theorem dL_crossings_294 : decode cL_crossings 294 = .ok (.aload_n 0, 1) := by decide +kernel
theorem dL_crossings_295 : decode cL_crossings 295 = .ok (.invokevirtual 115, 3) := by decide +kernel
theorem dL_crossings_298 : decode cL_crossings 298 = .ok (.ldc 127, 2) := by decide +kernel
theorem dL_crossings_300 : decode cL_crossings 300 = .ok (.fcmp .l, 1) := by decide +kernel
theorem dL_crossings_301 : decode cL_crossings 301 = .ok (.ifCond .ne 112, 3) := by decide +kernel
theorem dL_crossings_304 : decode cL_crossings 304 = .ok (.aload_n 0, 1) := by decide +kernel
theorem dL_crossings_305 : decode cL_crossings 305 = .ok (.bipush 9, 2) := by decide +kernel
theorem dL_crossings_307 : decode cL_crossings 307 = .ok (.iconst 1, 1) := by decide +kernel
theorem dL_crossings_308 : decode cL_crossings 308 = .ok (.invokevirtual 50, 3) := by decide +kernel
theorem dL_crossings_311 : decode cL_crossings 311 = .ok (.sipush 299, 3) := by decide +kernel
theorem dL_crossings_314 : decode cL_crossings 314 = .ok (.if_icmp .ne 99, 3) := by decide +kernel
theorem dL_crossings_317 : decode cL_crossings 317 = .ok (.aload_n 0, 1) := by decide +kernel
theorem dL_crossings_318 : decode cL_crossings 318 = .ok (.invokevirtual 23, 3) := by decide +kernel
theorem dL_crossings_321 : decode cL_crossings 321 = .ok (.iconst 1, 1) := by decide +kernel
theorem dL_crossings_322 : decode cL_crossings 322 = .ok (.if_icmp .ne 91, 3) := by decide +kernel
