theorem d_L_law_256 : decode b_L_law 256 = .ok (.iadd, 1) := by decide +kernel
theorem d_L_law_257 : decode b_L_law 257 = .ok (.iaload, 1) := by decide +kernel
theorem d_L_law_258 : decode b_L_law 258 = .ok (.aload_n 0, 1) := by decide +kernel
theorem d_L_law_259 : decode b_L_law 259 = .ok (.iload_n 3, 1) := by decide +kernel
theorem d_L_law_260 : decode b_L_law 260 = .ok (.iconst 2, 1) := by decide +kernel
theorem d_L_law_261 : decode b_L_law 261 = .ok (.iadd, 1) := by decide +kernel
theorem d_L_law_262 : decode b_L_law 262 = .ok (.iaload, 1) := by decide +kernel
theorem d_L_law_263 : decode b_L_law 263 = .ok (.i2l, 1) := by decide +kernel
theorem d_L_law_264 : decode b_L_law 264 = .ok (.bipush 32, 2) := by decide +kernel
theorem d_L_law_266 : decode b_L_law 266 = .ok (.lshl, 1) := by decide +kernel
theorem d_L_law_267 : decode b_L_law 267 = .ok (.aload_n 0, 1) := by decide +kernel
theorem d_L_law_268 : decode b_L_law 268 = .ok (.iload_n 3, 1) := by decide +kernel
theorem d_L_law_269 : decode b_L_law 269 = .ok (.iconst 3, 1) := by decide +kernel
theorem d_L_law_270 : decode b_L_law 270 = .ok (.iadd, 1) := by decide +kernel
theorem d_L_law_271 : decode b_L_law 271 = .ok (.iaload, 1) := by decide +kernel
theorem d_L_law_272 : decode b_L_law 272 = .ok (.i2l, 1) := by decide +kernel
theorem d_L_law_273 : decode b_L_law 273 = .ok (.ldc2_w 31, 3) := by decide +kernel
theorem d_L_law_276 : decode b_L_law 276 = .ok (.land, 1) := by decide +kernel
theorem d_L_law_277 : decode b_L_law 277 = .ok (.lor, 1) := by decide +kernel
theorem d_L_law_278 : decode b_L_law 278 = .ok (.aload_n 0, 1) := by decide +kernel
theorem d_L_law_279 : decode b_L_law 279 = .ok (.iload_n 3, 1) := by decide +kernel
theorem d_L_law_280 : decode b_L_law 280 = .ok (.iconst 4, 1) := by decide +kernel
theorem d_L_law_281 : decode b_L_law 281 = .ok (.iadd, 1) := by decide +kernel
theorem d_L_law_282 : decode b_L_law 282 = .ok (.iaload, 1) := by decide +kernel
theorem d_L_law_283 : decode b_L_law 283 = .ok (.i2l, 1) := by decide +kernel
theorem d_L_law_284 : decode b_L_law 284 = .ok (.bipush 32, 2) := by decide +kernel
theorem d_L_law_286 : decode b_L_law 286 = .ok (.lshl, 1) := by decide +kernel
theorem d_L_law_287 : decode b_L_law 287 = .ok (.aload_n 0, 1) := by decide +kernel
theorem d_L_law_288 : decode b_L_law 288 = .ok (.iload_n 3, 1) := by decide +kernel
theorem d_L_law_289 : decode b_L_law 289 = .ok (.iconst 5, 1) := by decide +kernel
theorem d_L_law_290 : decode b_L_law 290 = .ok (.iadd, 1) := by decide +kernel
theorem d_L_law_291 : decode b_L_law 291 = .ok (.iaload, 1) := by decide +kernel
theorem d_L_law_292 : decode b_L_law 292 = .ok (.i2l, 1) := by decide +kernel
theorem d_L_law_293 : decode b_L_law 293 = .ok (.ldc2_w 31, 3) := by decide +kernel
theorem d_L_law_296 : decode b_L_law 296 = .ok (.land, 1) := by decide +kernel
theorem d_L_law_297 : decode b_L_law 297 = .ok (.lor, 1) := by decide +kernel
theorem d_L_law_298 : decode b_L_law 298 = .ok (.aload_n 0, 1) := by decide +kernel
theorem d_L_law_299 : decode b_L_law 299 = .ok (.iload_n 3, 1) := by decide +kernel
theorem d_L_law_300 : decode b_L_law 300 = .ok (.bipush 6, 2) := by decide +kernel
theorem d_L_law_302 : decode b_L_law 302 = .ok (.iadd, 1) := by decide +kernel
theorem d_L_law_303 : decode b_L_law 303 = .ok (.iaload, 1) := by decide +kernel
theorem d_L_law_304 : decode b_L_law 304 = .ok (.i2l, 1) := by decide +kernel
theorem d_L_law_305 : decode b_L_law 305 = .ok (.bipush 32, 2) := by decide +kernel
theorem d_L_law_307 : decode b_L_law 307 = .ok (.lshl, 1) := by decide +kernel
theorem d_L_law_308 : decode b_L_law 308 = .ok (.aload_n 0, 1) := by decide +kernel
theorem d_L_law_309 : decode b_L_law 309 = .ok (.iload_n 3, 1) := by decide +kernel
theorem d_L_law_310 : decode b_L_law 310 = .ok (.bipush 7, 2) := by decide +kernel
theorem d_L_law_312 : decode b_L_law 312 = .ok (.iadd, 1) := by decide +kernel
theorem d_L_law_313 : decode b_L_law 313 = .ok (.iaload, 1) := by decide +kernel
theorem d_L_law_314 : decode b_L_law 314 = .ok (.i2l, 1) := by decide +kernel
theorem d_L_law_315 : decode b_L_law 315 = .ok (.ldc2_w 31, 3) := by decide +kernel
theorem d_L_law_318 : decode b_L_law 318 = .ok (.land, 1) := by decide +kernel
theorem d_L_law_319 : decode b_L_law 319 = .ok (.lor, 1) := by decide +kernel
theorem d_L_law_320 : decode b_L_law 320 = .ok (.invokevirtual 38, 3) := by decide +kernel
theorem d_L_law_323 : decode b_L_law 323 = .ok (.aload_n 2, 1) := by decide +kernel
theorem d_L_law_324 : decode b_L_law 324 = .ok (.aload_n 0, 1) := by decide +kernel
theorem d_L_law_325 : decode b_L_law 325 = .ok (.iload_n 3, 1) := by decide +kernel
theorem d_L_law_326 : decode b_L_law 326 = .ok (.iconst 1, 1) := by decide +kernel
theorem d_L_law_327 : decode b_L_law 327 = .ok (.iadd, 1) := by decide +kernel
theorem d_L_law_328 : decode b_L_law 328 = .ok (.iaload, 1) := by decide +kernel
theorem d_L_law_329 : decode b_L_law 329 = .ok (.aload_n 0, 1) := by decide +kernel
theorem d_L_law_330 : decode b_L_law 330 = .ok (.iload_n 3, 1) := by decide +kernel
theorem d_L_law_331 : decode b_L_law 331 = .ok (.iconst 2, 1) := by decide +kernel
theorem d_L_law_332 : decode b_L_law 332 = .ok (.iadd, 1) := by decide +kernel
theorem d_L_law_333 : decode b_L_law 333 = .ok (.iaload, 1) := by decide +kernel
theorem d_L_law_334 : decode b_L_law 334 = .ok (.i2l, 1) := by decide +kernel
theorem d_L_law_335 : decode b_L_law 335 = .ok (.bipush 32, 2) := by decide +kernel
theorem d_L_law_337 : decode b_L_law 337 = .ok (.lshl, 1) := by decide +kernel
theorem d_L_law_338 : decode b_L_law 338 = .ok (.aload_n 0, 1) := by decide +kernel
theorem d_L_law_339 : decode b_L_law 339 = .ok (.iload_n 3, 1) := by decide +kernel
theorem d_L_law_340 : decode b_L_law 340 = .ok (.iconst 3, 1) := by decide +kernel
theorem d_L_law_341 : decode b_L_law 341 = .ok (.iadd, 1) := by decide +kernel
theorem d_L_law_342 : decode b_L_law 342 = .ok (.iaload, 1) := by decide +kernel
theorem d_L_law_343 : decode b_L_law 343 = .ok (.i2l, 1) := by decide +kernel
theorem d_L_law_344 : decode b_L_law 344 = .ok (.ldc2_w 31, 3) := by decide +kernel
theorem d_L_law_347 : decode b_L_law 347 = .ok (.land, 1) := by decide +kernel
theorem d_L_law_348 : decode b_L_law 348 = .ok (.lor, 1) := by decide +kernel
theorem d_L_law_349 : decode b_L_law 349 = .ok (.aload_n 0, 1) := by decide +kernel
theorem d_L_law_350 : decode b_L_law 350 = .ok (.iload_n 3, 1) := by decide +kernel
theorem d_L_law_351 : decode b_L_law 351 = .ok (.iconst 4, 1) := by decide +kernel
theorem d_L_law_352 : decode b_L_law 352 = .ok (.iadd, 1) := by decide +kernel
theorem d_L_law_353 : decode b_L_law 353 = .ok (.iaload, 1) := by decide +kernel
theorem d_L_law_354 : decode b_L_law 354 = .ok (.i2l, 1) := by decide +kernel
theorem d_L_law_355 : decode b_L_law 355 = .ok (.bipush 32, 2) := by decide +kernel
theorem d_L_law_357 : decode b_L_law 357 = .ok (.lshl, 1) := by decide +kernel
theorem d_L_law_358 : decode b_L_law 358 = .ok (.aload_n 0, 1) := by decide +kernel
theorem d_L_law_359 : decode b_L_law 359 = .ok (.iload_n 3, 1) := by decide +kernel
theorem d_L_law_360 : decode b_L_law 360 = .ok (.iconst 5, 1) := by decide +kernel
theorem d_L_law_361 : decode b_L_law 361 = .ok (.iadd, 1) := by decide +kernel
theorem d_L_law_362 : decode b_L_law 362 = .ok (.iaload, 1) := by decide +kernel
theorem d_L_law_363 : decode b_L_law 363 = .ok (.i2l, 1) := by decide +kernel
theorem d_L_law_364 : decode b_L_law 364 = .ok (.ldc2_w 31, 3) := by decide +kernel
theorem d_L_law_367 : decode b_L_law 367 = .ok (.land, 1) := by decide +kernel
theorem d_L_law_368 : decode b_L_law 368 = .ok (.lor, 1) := by decide +kernel
theorem d_L_law_369 : decode b_L_law 369 = .ok (.aload_n 0, 1) := by decide +kernel
theorem d_L_law_370 : decode b_L_law 370 = .ok (.iload_n 3, 1) := by decide +kernel
theorem d_L_law_371 : decode b_L_law 371 = .ok (.bipush 6, 2) := by decide +kernel
theorem d_L_law_373 : decode b_L_law 373 = .ok (.iadd, 1) := by decide +kernel
theorem d_L_law_374 : decode b_L_law 374 = .ok (.iaload, 1) := by decide +kernel
theorem d_L_law_375 : decode b_L_law 375 = .ok (.i2l, 1) := by decide +kernel
theorem d_L_law_376 : decode b_L_law 376 = .ok (.bipush 32, 2) := by decide +kernel
theorem d_L_law_378 : decode b_L_law 378 = .ok (.lshl, 1) := by decide +kernel
theorem d_L_law_379 : decode b_L_law 379 = .ok (.aload_n 0, 1) := by decide +kernel
theorem d_L_law_380 : decode b_L_law 380 = .ok (.iload_n 3, 1) := by decide +kernel
theorem d_L_law_381 : decode b_L_law 381 = .ok (.bipush 7, 2) := by decide +kernel
theorem d_L_law_383 : decode b_L_law 383 = .ok (.iadd, 1) := by decide +kernel
theorem d_L_law_384 : decode b_L_law 384 = .ok (.iaload, 1) := by decide +kernel
theorem d_L_law_385 : decode b_L_law 385 = .ok (.i2l, 1) := by decide +kernel
theorem d_L_law_386 : decode b_L_law 386 = .ok (.ldc2_w 31, 3) := by decide +kernel
theorem d_L_law_389 : decode b_L_law 389 = .ok (.land, 1) := by decide +kernel
theorem d_L_law_390 : decode b_L_law 390 = .ok (.lor, 1) := by decide +kernel
theorem d_L_law_391 : decode b_L_law 391 = .ok (.invokevirtual 42, 3) := by decide +kernel
theorem d_L_law_394 : decode b_L_law 394 = .ok (.if_icmp .eq 602, 3) := by decide +kernel
theorem d_L_law_397 : decode b_L_law 397 = .ok (.iconst 0, 1) := by decide +kernel
theorem d_L_law_398 : decode b_L_law 398 = .ok (.ireturn, 1) := by decide +kernel
theorem d_L_law_399 : decode b_L_law 399 = .ok (.aload_n 1, 1) := by decide +kernel
theorem d_L_law_400 : decode b_L_law 400 = .ok (.aload_n 0, 1) := by decide +kernel
theorem d_L_law_401 : decode b_L_law 401 = .ok (.iload_n 3, 1) := by decide +kernel
theorem d_L_law_402 : decode b_L_law 402 = .ok (.iconst 1, 1) := by decide +kernel
theorem d_L_law_403 : decode b_L_law 403 = .ok (.iadd, 1) := by decide +kernel
