theorem zd_Law_law_263 : decode zc_Law_law 263 = .ok (.aload_n 2, 1) := by decide +kernel
theorem zd_Law_law_264 : decode zc_Law_law 264 = .ok (.invokevirtual 85, 3) := by decide +kernel
theorem zd_Law_law_267 : decode zc_Law_law 267 = .ok (.istore 6, 2) := by decide +kernel
theorem zd_Law_law_269 : decode zc_Law_law 269 = .ok (.aload_n 2, 1) := by decide +kernel
theorem zd_Law_law_270 : decode zc_Law_law 270 = .ok (.invokevirtual 75, 3) := by decide +kernel
theorem zd_Law_law_273 : decode zc_Law_law 273 = .ok (.iload 5, 2) := by decide +kernel
theorem zd_Law_law_275 : decode zc_Law_law 275 = .ok (.if_icmp .eq 5, 3) := by decide +kernel
theorem zd_Law_law_278 : decode zc_Law_law 278 = .ok (.iconst 0, 1) := by decide +kernel
theorem zd_Law_law_279 : decode zc_Law_law 279 = .ok (.ireturn, 1) := by decide +kernel
theorem zd_Law_law_280 : decode zc_Law_law 280 = .ok (.iload 5, 2) := by decide +kernel
theorem zd_Law_law_282 : decode zc_Law_law 282 = .ok (.ifCond .ne 15, 3) := by decide +kernel
theorem zd_Law_law_285 : decode zc_Law_law 285 = .ok (.aload_n 3, 1) := by decide +kernel
theorem zd_Law_law_286 : decode zc_Law_law 286 = .ok (.iconst 0, 1) := by decide +kernel
theorem zd_Law_law_287 : decode zc_Law_law 287 = .ok (.laload, 1) := by decide +kernel
theorem zd_Law_law_288 : decode zc_Law_law 288 = .ok (.iload 6, 2) := by decide +kernel
theorem zd_Law_law_290 : decode zc_Law_law 290 = .ok (.i2l, 1) := by decide +kernel
theorem zd_Law_law_291 : decode zc_Law_law 291 = .ok (.lcmp, 1) := by decide +kernel
theorem zd_Law_law_292 : decode zc_Law_law 292 = .ok (.ifCond .eq 5, 3) := by decide +kernel
theorem zd_Law_law_295 : decode zc_Law_law 295 = .ok (.iconst 0, 1) := by decide +kernel
theorem zd_Law_law_296 : decode zc_Law_law 296 = .ok (.ireturn, 1) := by decide +kernel
theorem zd_Law_law_297 : decode zc_Law_law 297 = .ok (.goto 577, 3) := by decide +kernel
theorem zd_Law_law_300 : decode zc_Law_law 300 = .ok (.aload_n 1, 1) := by decide +kernel
theorem zd_Law_law_301 : decode zc_Law_law 301 = .ok (.aload_n 0, 1) := by decide +kernel
theorem zd_Law_law_302 : decode zc_Law_law 302 = .ok (.iload 4, 2) := by decide +kernel
theorem zd_Law_law_304 : decode zc_Law_law 304 = .ok (.iconst 1, 1) := by decide +kernel
theorem zd_Law_law_305 : decode zc_Law_law 305 = .ok (.iadd, 1) := by decide +kernel
theorem zd_Law_law_306 : decode zc_Law_law 306 = .ok (.iaload, 1) := by decide +kernel
theorem zd_Law_law_307 : decode zc_Law_law 307 = .ok (.aload_n 3, 1) := by decide +kernel
theorem zd_Law_law_308 : decode zc_Law_law 308 = .ok (.invokestatic 86, 3) := by decide +kernel
theorem zd_Law_law_311 : decode zc_Law_law 311 = .ok (.istore 5, 2) := by decide +kernel
theorem zd_Law_law_313 : decode zc_Law_law 313 = .ok (.aload_n 2, 1) := by decide +kernel
theorem zd_Law_law_314 : decode zc_Law_law 314 = .ok (.aload_n 0, 1) := by decide +kernel
theorem zd_Law_law_315 : decode zc_Law_law 315 = .ok (.iload 4, 2) := by decide +kernel
theorem zd_Law_law_317 : decode zc_Law_law 317 = .ok (.iconst 1, 1) := by decide +kernel
theorem zd_Law_law_318 : decode zc_Law_law 318 = .ok (.iadd, 1) := by decide +kernel
theorem zd_Law_law_319 : decode zc_Law_law 319 = .ok (.iaload, 1) := by decide +kernel
theorem zd_Law_law_320 : decode zc_Law_law 320 = .ok (.invokevirtual 88, 3) := by decide +kernel
theorem zd_Law_law_323 : decode zc_Law_law 323 = .ok (.istore 6, 2) := by decide +kernel
theorem zd_Law_law_325 : decode zc_Law_law 325 = .ok (.aload_n 2, 1) := by decide +kernel
theorem zd_Law_law_326 : decode zc_Law_law 326 = .ok (.invokevirtual 75, 3) := by decide +kernel
theorem zd_Law_law_329 : decode zc_Law_law 329 = .ok (.iload 5, 2) := by decide +kernel
theorem zd_Law_law_331 : decode zc_Law_law 331 = .ok (.if_icmp .eq 5, 3) := by decide +kernel
theorem zd_Law_law_334 : decode zc_Law_law 334 = .ok (.iconst 0, 1) := by decide +kernel
theorem zd_Law_law_335 : decode zc_Law_law 335 = .ok (.ireturn, 1) := by decide +kernel
theorem zd_Law_law_336 : decode zc_Law_law 336 = .ok (.iload 5, 2) := by decide +kernel
theorem zd_Law_law_338 : decode zc_Law_law 338 = .ok (.ifCond .ne 15, 3) := by decide +kernel
theorem zd_Law_law_341 : decode zc_Law_law 341 = .ok (.aload_n 3, 1) := by decide +kernel
theorem zd_Law_law_342 : decode zc_Law_law 342 = .ok (.iconst 0, 1) := by decide +kernel
theorem zd_Law_law_343 : decode zc_Law_law 343 = .ok (.laload, 1) := by decide +kernel
theorem zd_Law_law_344 : decode zc_Law_law 344 = .ok (.iload 6, 2) := by decide +kernel
theorem zd_Law_law_346 : decode zc_Law_law 346 = .ok (.i2l, 1) := by decide +kernel
theorem zd_Law_law_347 : decode zc_Law_law 347 = .ok (.lcmp, 1) := by decide +kernel
theorem zd_Law_law_348 : decode zc_Law_law 348 = .ok (.ifCond .eq 5, 3) := by decide +kernel
theorem zd_Law_law_351 : decode zc_Law_law 351 = .ok (.iconst 0, 1) := by decide +kernel
theorem zd_Law_law_352 : decode zc_Law_law 352 = .ok (.ireturn, 1) := by decide +kernel
theorem zd_Law_law_353 : decode zc_Law_law 353 = .ok (.goto 521, 3) := by decide +kernel
theorem zd_Law_law_356 : decode zc_Law_law 356 = .ok (.aload_n 1, 1) := by decide +kernel
theorem zd_Law_law_357 : decode zc_Law_law 357 = .ok (.aload_n 0, 1) := by decide +kernel
theorem zd_Law_law_358 : decode zc_Law_law 358 = .ok (.iload 4, 2) := by decide +kernel
theorem zd_Law_law_360 : decode zc_Law_law 360 = .ok (.iconst 1, 1) := by decide +kernel
