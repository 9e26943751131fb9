theorem d_L_law_280 : decode code 280 = .ok (.iload_n 3, 1) := by decide +kernel
theorem d_L_law_281 : decode code 281 = .ok (.iconst 1, 1) := by decide +kernel
theorem d_L_law_282 : decode code 282 = .ok (.iadd, 1) := by decide +kernel
theorem d_L_law_283 : decode code 283 = .ok (.iaload, 1) := by decide +kernel
theorem d_L_law_284 : decode code 284 = .ok (.invokevirtual 39, 3) := by decide +kernel
theorem d_L_law_287 : decode code 287 = .ok (.aload_n 2, 1) := by decide +kernel
theorem d_L_law_288 : decode code 288 = .ok (.aload_n 0, 1) := by decide +kernel
theorem d_L_law_289 : decode code 289 = .ok (.iload_n 3, 1) := by decide +kernel
theorem d_L_law_290 : decode code 290 = .ok (.iconst 1, 1) := by decide +kernel
theorem d_L_law_291 : decode code 291 = .ok (.iadd, 1) := by decide +kernel
theorem d_L_law_292 : decode code 292 = .ok (.iaload, 1) := by decide +kernel
theorem d_L_law_293 : decode code 293 = .ok (.invokevirtual 42, 3) := by decide +kernel
theorem d_L_law_296 : decode code 296 = .ok (.if_icmp .eq 450, 3) := by decide +kernel
theorem d_L_law_299 : decode code 299 = .ok (.iconst 0, 1) := by decide +kernel
theorem d_L_law_300 : decode code 300 = .ok (.ireturn, 1) := by decide +kernel
theorem d_L_law_301 : decode code 301 = .ok (.aload_n 1, 1) := by decide +kernel
theorem d_L_law_302 : decode code 302 = .ok (.aload_n 0, 1) := by decide +kernel
theorem d_L_law_303 : decode code 303 = .ok (.iload_n 3, 1) := by decide +kernel
theorem d_L_law_304 : decode code 304 = .ok (.iconst 1, 1) := by decide +kernel
theorem d_L_law_305 : decode code 305 = .ok (.iadd, 1) := by decide +kernel
theorem d_L_law_306 : decode code 306 = .ok (.iaload, 1) := by decide +kernel
theorem d_L_law_307 : decode code 307 = .ok (.invokevirtual 43, 3) := by decide +kernel
theorem d_L_law_310 : decode code 310 = .ok (.aload_n 2, 1) := by decide +kernel
theorem d_L_law_311 : decode code 311 = .ok (.aload_n 0, 1) := by decide +kernel
theorem d_L_law_312 : decode code 312 = .ok (.iload_n 3, 1) := by decide +kernel
theorem d_L_law_313 : decode code 313 = .ok (.iconst 1, 1) := by decide +kernel
theorem d_L_law_314 : decode code 314 = .ok (.iadd, 1) := by decide +kernel
theorem d_L_law_315 : decode code 315 = .ok (.iaload, 1) := by decide +kernel
theorem d_L_law_316 : decode code 316 = .ok (.invokevirtual 47, 3) := by decide +kernel
theorem d_L_law_319 : decode code 319 = .ok (.if_icmp .eq 427, 3) := by decide +kernel
theorem d_L_law_322 : decode code 322 = .ok (.iconst 0, 1) := by decide +kernel
theorem d_L_law_323 : decode code 323 = .ok (.ireturn, 1) := by decide +kernel
theorem d_L_law_324 : decode code 324 = .ok (.aload_n 1, 1) := by decide +kernel
theorem d_L_law_325 : decode code 325 = .ok (.aload_n 0, 1) := by decide +kernel
theorem d_L_law_326 : decode code 326 = .ok (.iload_n 3, 1) := by decide +kernel
theorem d_L_law_327 : decode code 327 = .ok (.iconst 1, 1) := by decide +kernel
theorem d_L_law_328 : decode code 328 = .ok (.iadd, 1) := by decide +kernel
theorem d_L_law_329 : decode code 329 = .ok (.iaload, 1) := by decide +kernel
theorem d_L_law_330 : decode code 330 = .ok (.aload_n 0, 1) := by decide +kernel
theorem d_L_law_331 : decode code 331 = .ok (.iload_n 3, 1) := by decide +kernel
theorem d_L_law_332 : decode code 332 = .ok (.iconst 2, 1) := by decide +kernel
theorem d_L_law_333 : decode code 333 = .ok (.iadd, 1) := by decide +kernel
theorem d_L_law_334 : decode code 334 = .ok (.iaload, 1) := by decide +kernel
theorem d_L_law_335 : decode code 335 = .ok (.aload_n 0, 1) := by decide +kernel
theorem d_L_law_336 : decode code 336 = .ok (.iload_n 3, 1) := by decide +kernel
theorem d_L_law_337 : decode code 337 = .ok (.iconst 3, 1) := by decide +kernel
theorem d_L_law_338 : decode code 338 = .ok (.iadd, 1) := by decide +kernel
theorem d_L_law_339 : decode code 339 = .ok (.iaload, 1) := by decide +kernel
theorem d_L_law_340 : decode code 340 = .ok (.invokevirtual 48, 3) := by decide +kernel
theorem d_L_law_343 : decode code 343 = .ok (.aload_n 2, 1) := by decide +kernel
