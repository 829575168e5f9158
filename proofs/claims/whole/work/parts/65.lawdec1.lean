theorem d_Lw_law_262 : decode code 262 = .ok (.iconst 1, 1) := by decide +kernel
theorem d_Lw_law_263 : decode code 263 = .ok (.iadd, 1) := by decide +kernel
theorem d_Lw_law_264 : decode code 264 = .ok (.iaload, 1) := by decide +kernel
theorem d_Lw_law_265 : decode code 265 = .ok (.invokevirtual 34, 3) := by decide +kernel
theorem d_Lw_law_268 : decode code 268 = .ok (.if_icmp .eq 441, 3) := by decide +kernel
theorem d_Lw_law_271 : decode code 271 = .ok (.iconst 0, 1) := by decide +kernel
theorem d_Lw_law_272 : decode code 272 = .ok (.ireturn, 1) := by decide +kernel
theorem d_Lw_law_273 : decode code 273 = .ok (.aload_n 1, 1) := by decide +kernel
theorem d_Lw_law_274 : decode code 274 = .ok (.aload_n 0, 1) := by decide +kernel
theorem d_Lw_law_275 : decode code 275 = .ok (.iload_n 3, 1) := by decide +kernel
theorem d_Lw_law_276 : decode code 276 = .ok (.iconst 1, 1) := by decide +kernel
theorem d_Lw_law_277 : decode code 277 = .ok (.iadd, 1) := by decide +kernel
theorem d_Lw_law_278 : decode code 278 = .ok (.iaload, 1) := by decide +kernel
theorem d_Lw_law_279 : decode code 279 = .ok (.invokevirtual 35, 3) := by decide +kernel
theorem d_Lw_law_282 : decode code 282 = .ok (.aload_n 2, 1) := by decide +kernel
theorem d_Lw_law_283 : decode code 283 = .ok (.aload_n 0, 1) := by decide +kernel
theorem d_Lw_law_284 : decode code 284 = .ok (.iload_n 3, 1) := by decide +kernel
theorem d_Lw_law_285 : decode code 285 = .ok (.iconst 1, 1) := by decide +kernel
theorem d_Lw_law_286 : decode code 286 = .ok (.iadd, 1) := by decide +kernel
theorem d_Lw_law_287 : decode code 287 = .ok (.iaload, 1) := by decide +kernel
theorem d_Lw_law_288 : decode code 288 = .ok (.invokevirtual 38, 3) := by decide +kernel
theorem d_Lw_law_291 : decode code 291 = .ok (.if_icmp .eq 418, 3) := by decide +kernel
theorem d_Lw_law_294 : decode code 294 = .ok (.iconst 0, 1) := by decide +kernel
theorem d_Lw_law_295 : decode code 295 = .ok (.ireturn, 1) := by decide +kernel
theorem d_Lw_law_296 : decode code 296 = .ok (.aload_n 1, 1) := by decide +kernel
theorem d_Lw_law_297 : decode code 297 = .ok (.invokevirtual 39, 3) := by decide +kernel
theorem d_Lw_law_300 : decode code 300 = .ok (.aload_n 2, 1) := by decide +kernel
theorem d_Lw_law_301 : decode code 301 = .ok (.invokevirtual 43, 3) := by decide +kernel
theorem d_Lw_law_304 : decode code 304 = .ok (.if_icmp .eq 405, 3) := by decide +kernel
theorem d_Lw_law_307 : decode code 307 = .ok (.iconst 0, 1) := by decide +kernel
theorem d_Lw_law_308 : decode code 308 = .ok (.ireturn, 1) := by decide +kernel
theorem d_Lw_law_309 : decode code 309 = .ok (.aload_n 1, 1) := by decide +kernel
theorem d_Lw_law_310 : decode code 310 = .ok (.invokevirtual 44, 3) := by decide +kernel
theorem d_Lw_law_313 : decode code 313 = .ok (.aload_n 2, 1) := by decide +kernel
theorem d_Lw_law_314 : decode code 314 = .ok (.invokevirtual 48, 3) := by decide +kernel
theorem d_Lw_law_317 : decode code 317 = .ok (.if_icmp .eq 392, 3) := by decide +kernel
theorem d_Lw_law_320 : decode code 320 = .ok (.iconst 0, 1) := by decide +kernel
theorem d_Lw_law_321 : decode code 321 = .ok (.ireturn, 1) := by decide +kernel
theorem d_Lw_law_322 : decode code 322 = .ok (.aload_n 1, 1) := by decide +kernel
theorem d_Lw_law_323 : decode code 323 = .ok (.aload_n 0, 1) := by decide +kernel
theorem d_Lw_law_324 : decode code 324 = .ok (.iload_n 3, 1) := by decide +kernel
theorem d_Lw_law_325 : decode code 325 = .ok (.iconst 1, 1) := by decide +kernel
theorem d_Lw_law_326 : decode code 326 = .ok (.iadd, 1) := by decide +kernel
theorem d_Lw_law_327 : decode code 327 = .ok (.iaload, 1) := by decide +kernel
theorem d_Lw_law_328 : decode code 328 = .ok (.invokevirtual 49, 3) := by decide +kernel
theorem d_Lw_law_331 : decode code 331 = .ok (.aload_n 2, 1) := by decide +kernel
theorem d_Lw_law_332 : decode code 332 = .ok (.aload_n 0, 1) := by decide +kernel
theorem d_Lw_law_333 : decode code 333 = .ok (.iload_n 3, 1) := by decide +kernel
theorem d_Lw_law_334 : decode code 334 = .ok (.iconst 1, 1) := by decide +kernel
theorem d_Lw_law_335 : decode code 335 = .ok (.iadd, 1) := by decide +kernel
theorem d_Lw_law_336 : decode code 336 = .ok (.iaload, 1) := by decide +kernel
theorem d_Lw_law_337 : decode code 337 = .ok (.invokevirtual 52, 3) := by decide +kernel
theorem d_Lw_law_340 : decode code 340 = .ok (.if_icmp .eq 369, 3) := by decide +kernel
theorem d_Lw_law_343 : decode code 343 = .ok (.iconst 0, 1) := by decide +kernel
theorem d_Lw_law_344 : decode code 344 = .ok (.ireturn, 1) := by decide +kernel
theorem d_Lw_law_345 : decode code 345 = .ok (.aload_n 1, 1) := by decide +kernel
theorem d_Lw_law_346 : decode code 346 = .ok (.aload_n 0, 1) := by decide +kernel
theorem d_Lw_law_347 : decode code 347 = .ok (.iload_n 3, 1) := by decide +kernel
theorem d_Lw_law_348 : decode code 348 = .ok (.iconst 1, 1) := by decide +kernel
theorem d_Lw_law_349 : decode code 349 = .ok (.iadd, 1) := by decide +kernel
theorem d_Lw_law_350 : decode code 350 = .ok (.iaload, 1) := by decide +kernel
theorem d_Lw_law_351 : decode code 351 = .ok (.aload_n 0, 1) := by decide +kernel
theorem d_Lw_law_352 : decode code 352 = .ok (.iload_n 3, 1) := by decide +kernel
theorem d_Lw_law_353 : decode code 353 = .ok (.iconst 2, 1) := by decide +kernel
theorem d_Lw_law_354 : decode code 354 = .ok (.iadd, 1) := by decide +kernel
theorem d_Lw_law_355 : decode code 355 = .ok (.iaload, 1) := by decide +kernel
theorem d_Lw_law_356 : decode code 356 = .ok (.aload_n 0, 1) := by decide +kernel
theorem d_Lw_law_357 : decode code 357 = .ok (.iload_n 3, 1) := by decide +kernel
theorem d_Lw_law_358 : decode code 358 = .ok (.iconst 3, 1) := by decide +kernel
theorem d_Lw_law_359 : decode code 359 = .ok (.iadd, 1) := by decide +kernel
theorem d_Lw_law_360 : decode code 360 = .ok (.iaload, 1) := by decide +kernel
theorem d_Lw_law_361 : decode code 361 = .ok (.invokevirtual 53, 3) := by decide +kernel
theorem d_Lw_law_364 : decode code 364 = .ok (.aload_n 2, 1) := by decide +kernel
theorem d_Lw_law_365 : decode code 365 = .ok (.aload_n 0, 1) := by decide +kernel
theorem d_Lw_law_366 : decode code 366 = .ok (.iload_n 3, 1) := by decide +kernel
theorem d_Lw_law_367 : decode code 367 = .ok (.iconst 1, 1) := by decide +kernel
theorem d_Lw_law_368 : decode code 368 = .ok (.iadd, 1) := by decide +kernel
theorem d_Lw_law_369 : decode code 369 = .ok (.iaload, 1) := by decide +kernel
theorem d_Lw_law_370 : decode code 370 = .ok (.aload_n 0, 1) := by decide +kernel
theorem d_Lw_law_371 : decode code 371 = .ok (.iload_n 3, 1) := by decide +kernel
theorem d_Lw_law_372 : decode code 372 = .ok (.iconst 2, 1) := by decide +kernel
theorem d_Lw_law_373 : decode code 373 = .ok (.iadd, 1) := by decide +kernel
theorem d_Lw_law_374 : decode code 374 = .ok (.iaload, 1) := by decide +kernel
theorem d_Lw_law_375 : decode code 375 = .ok (.aload_n 0, 1) := by decide +kernel
theorem d_Lw_law_376 : decode code 376 = .ok (.iload_n 3, 1) := by decide +kernel
theorem d_Lw_law_377 : decode code 377 = .ok (.iconst 3, 1) := by decide +kernel
theorem d_Lw_law_378 : decode code 378 = .ok (.iadd, 1) := by decide +kernel
theorem d_Lw_law_379 : decode code 379 = .ok (.iaload, 1) := by decide +kernel
theorem d_Lw_law_380 : decode code 380 = .ok (.invokevirtual 57, 3) := by decide +kernel
theorem d_Lw_law_383 : decode code 383 = .ok (.if_icmp .eq 326, 3) := by decide +kernel
theorem d_Lw_law_386 : decode code 386 = .ok (.iconst 0, 1) := by decide +kernel
theorem d_Lw_law_387 : decode code 387 = .ok (.ireturn, 1) := by decide +kernel
theorem d_Lw_law_388 : decode code 388 = .ok (.aload_n 1, 1) := by decide +kernel
theorem d_Lw_law_389 : decode code 389 = .ok (.aload_n 0, 1) := by decide +kernel
theorem d_Lw_law_390 : decode code 390 = .ok (.iload_n 3, 1) := by decide +kernel
theorem d_Lw_law_391 : decode code 391 = .ok (.iconst 1, 1) := by decide +kernel
theorem d_Lw_law_392 : decode code 392 = .ok (.iadd, 1) := by decide +kernel
theorem d_Lw_law_393 : decode code 393 = .ok (.iaload, 1) := by decide +kernel
theorem d_Lw_law_394 : decode code 394 = .ok (.aload_n 0, 1) := by decide +kernel
theorem d_Lw_law_395 : decode code 395 = .ok (.iload_n 3, 1) := by decide +kernel
theorem d_Lw_law_396 : decode code 396 = .ok (.iconst 2, 1) := by decide +kernel
theorem d_Lw_law_397 : decode code 397 = .ok (.iadd, 1) := by decide +kernel
theorem d_Lw_law_398 : decode code 398 = .ok (.iaload, 1) := by decide +kernel
theorem d_Lw_law_399 : decode code 399 = .ok (.invokevirtual 58, 3) := by decide +kernel
theorem d_Lw_law_402 : decode code 402 = .ok (.aload_n 2, 1) := by decide +kernel
theorem d_Lw_law_403 : decode code 403 = .ok (.aload_n 0, 1) := by decide +kernel
theorem d_Lw_law_404 : decode code 404 = .ok (.iload_n 3, 1) := by decide +kernel
theorem d_Lw_law_405 : decode code 405 = .ok (.iconst 1, 1) := by decide +kernel
theorem d_Lw_law_406 : decode code 406 = .ok (.iadd, 1) := by decide +kernel
theorem d_Lw_law_407 : decode code 407 = .ok (.iaload, 1) := by decide +kernel
theorem d_Lw_law_408 : decode code 408 = .ok (.aload_n 0, 1) := by decide +kernel
theorem d_Lw_law_409 : decode code 409 = .ok (.iload_n 3, 1) := by decide +kernel
theorem d_Lw_law_410 : decode code 410 = .ok (.iconst 2, 1) := by decide +kernel
theorem d_Lw_law_411 : decode code 411 = .ok (.iadd, 1) := by decide +kernel
theorem d_Lw_law_412 : decode code 412 = .ok (.iaload, 1) := by decide +kernel
theorem d_Lw_law_413 : decode code 413 = .ok (.invokevirtual 62, 3) := by decide +kernel
theorem d_Lw_law_416 : decode code 416 = .ok (.if_icmp .eq 293, 3) := by decide +kernel
theorem d_Lw_law_419 : decode code 419 = .ok (.iconst 0, 1) := by decide +kernel
theorem d_Lw_law_420 : decode code 420 = .ok (.ireturn, 1) := by decide +kernel
theorem d_Lw_law_421 : decode code 421 = .ok (.aload_n 1, 1) := by decide +kernel
theorem d_Lw_law_422 : decode code 422 = .ok (.aload_n 0, 1) := by decide +kernel
theorem d_Lw_law_423 : decode code 423 = .ok (.iload_n 3, 1) := by decide +kernel
theorem d_Lw_law_424 : decode code 424 = .ok (.iconst 1, 1) := by decide +kernel
theorem d_Lw_law_425 : decode code 425 = .ok (.iadd, 1) := by decide +kernel
theorem d_Lw_law_426 : decode code 426 = .ok (.iaload, 1) := by decide +kernel
theorem d_Lw_law_427 : decode code 427 = .ok (.aload_n 0, 1) := by decide +kernel
theorem d_Lw_law_428 : decode code 428 = .ok (.iload_n 3, 1) := by decide +kernel
theorem d_Lw_law_429 : decode code 429 = .ok (.iconst 2, 1) := by decide +kernel
theorem d_Lw_law_430 : decode code 430 = .ok (.iadd, 1) := by decide +kernel
theorem d_Lw_law_431 : decode code 431 = .ok (.iaload, 1) := by decide +kernel
