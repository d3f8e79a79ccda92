theorem d_Law_law_278 : decode code 278 = .ok (.iconst 2, 1) := by decide +kernel
theorem d_Law_law_279 : decode code 279 = .ok (.iadd, 1) := by decide +kernel
theorem d_Law_law_280 : decode code 280 = .ok (.iaload, 1) := by decide +kernel
theorem d_Law_law_281 : decode code 281 = .ok (.invokevirtual 35, 3) := by decide +kernel
theorem d_Law_law_284 : decode code 284 = .ok (.if_icmp .eq 407, 3) := by decide +kernel
theorem d_Law_law_287 : decode code 287 = .ok (.iconst 0, 1) := by decide +kernel
theorem d_Law_law_288 : decode code 288 = .ok (.ireturn, 1) := by decide +kernel
theorem d_Law_law_289 : decode code 289 = .ok (.aload_n 1, 1) := by decide +kernel
theorem d_Law_law_290 : decode code 290 = .ok (.aload_n 0, 1) := by decide +kernel
theorem d_Law_law_291 : decode code 291 = .ok (.iload_n 3, 1) := by decide +kernel
theorem d_Law_law_292 : decode code 292 = .ok (.iconst 1, 1) := by decide +kernel
theorem d_Law_law_293 : decode code 293 = .ok (.iadd, 1) := by decide +kernel
theorem d_Law_law_294 : decode code 294 = .ok (.iaload, 1) := by decide +kernel
theorem d_Law_law_295 : decode code 295 = .ok (.invokevirtual 36, 3) := by decide +kernel
theorem d_Law_law_298 : decode code 298 = .ok (.aload_n 2, 1) := by decide +kernel
theorem d_Law_law_299 : decode code 299 = .ok (.aload_n 0, 1) := by decide +kernel
theorem d_Law_law_300 : decode code 300 = .ok (.iload_n 3, 1) := by decide +kernel
theorem d_Law_law_301 : decode code 301 = .ok (.iconst 1, 1) := by decide +kernel
theorem d_Law_law_302 : decode code 302 = .ok (.iadd, 1) := by decide +kernel
theorem d_Law_law_303 : decode code 303 = .ok (.iaload, 1) := by decide +kernel
theorem d_Law_law_304 : decode code 304 = .ok (.invokevirtual 39, 3) := by decide +kernel
theorem d_Law_law_307 : decode code 307 = .ok (.if_icmp .eq 384, 3) := by decide +kernel
theorem d_Law_law_310 : decode code 310 = .ok (.iconst 0, 1) := by decide +kernel
theorem d_Law_law_311 : decode code 311 = .ok (.ireturn, 1) := by decide +kernel
theorem d_Law_law_312 : decode code 312 = .ok (.aload_n 1, 1) := by decide +kernel
theorem d_Law_law_313 : decode code 313 = .ok (.aload_n 0, 1) := by decide +kernel
theorem d_Law_law_314 : decode code 314 = .ok (.iload_n 3, 1) := by decide +kernel
theorem d_Law_law_315 : decode code 315 = .ok (.iconst 1, 1) := by decide +kernel
theorem d_Law_law_316 : decode code 316 = .ok (.iadd, 1) := by decide +kernel
theorem d_Law_law_317 : decode code 317 = .ok (.iaload, 1) := by decide +kernel
theorem d_Law_law_318 : decode code 318 = .ok (.invokevirtual 40, 3) := by decide +kernel
theorem d_Law_law_321 : decode code 321 = .ok (.aload_n 2, 1) := by decide +kernel
theorem d_Law_law_322 : decode code 322 = .ok (.aload_n 0, 1) := by decide +kernel
theorem d_Law_law_323 : decode code 323 = .ok (.iload_n 3, 1) := by decide +kernel
theorem d_Law_law_324 : decode code 324 = .ok (.iconst 1, 1) := by decide +kernel
theorem d_Law_law_325 : decode code 325 = .ok (.iadd, 1) := by decide +kernel
theorem d_Law_law_326 : decode code 326 = .ok (.iaload, 1) := by decide +kernel
theorem d_Law_law_327 : decode code 327 = .ok (.invokevirtual 44, 3) := by decide +kernel
theorem d_Law_law_330 : decode code 330 = .ok (.if_icmp .eq 361, 3) := by decide +kernel
theorem d_Law_law_333 : decode code 333 = .ok (.iconst 0, 1) := by decide +kernel
theorem d_Law_law_334 : decode code 334 = .ok (.ireturn, 1) := by decide +kernel
theorem d_Law_law_335 : decode code 335 = .ok (.aload_n 1, 1) := by decide +kernel
theorem d_Law_law_336 : decode code 336 = .ok (.aload_n 0, 1) := by decide +kernel
theorem d_Law_law_337 : decode code 337 = .ok (.iload_n 3, 1) := by decide +kernel
theorem d_Law_law_338 : decode code 338 = .ok (.iconst 1, 1) := by decide +kernel
theorem d_Law_law_339 : decode code 339 = .ok (.iadd, 1) := by decide +kernel
theorem d_Law_law_340 : decode code 340 = .ok (.iaload, 1) := by decide +kernel
theorem d_Law_law_341 : decode code 341 = .ok (.aload_n 0, 1) := by decide +kernel
theorem d_Law_law_342 : decode code 342 = .ok (.iload_n 3, 1) := by decide +kernel
theorem d_Law_law_343 : decode code 343 = .ok (.iconst 2, 1) := by decide +kernel
