theorem dL_hangs_235 : decode cL_hangs 235 = .ok (.istore 7, 2) := by decide +kernel
theorem dL_hangs_237 : decode cL_hangs 237 = .ok (.iinc 12 1, 3) := by decide +kernel
theorem dL_hangs_240 : decode cL_hangs 240 = .ok (.goto (-58), 3) := by decide +kernel
theorem dL_hangs_243 : decode cL_hangs 243 = .ok (.iconst 0, 1) := by decide +kernel
theorem dL_hangs_244 : decode cL_hangs 244 = .ok (.istore 12, 2) := by decide +kernel
theorem dL_hangs_246 : decode cL_hangs 246 = .ok (.iload 12, 2) := by decide +kernel
theorem dL_hangs_248 : decode cL_hangs 248 = .ok (.iload_n 1, 1) := by decide +kernel
theorem dL_hangs_249 : decode cL_hangs 249 = .ok (.if_icmp .ge 48, 3) := by decide +kernel
theorem dL_hangs_252 : decode cL_hangs 252 = .ok (.iload 7, 2) := by decide +kernel
theorem dL_hangs_254 : decode cL_hangs 254 = .ok (.ifCond .eq 43, 3) := by decide +kernel
theorem dL_hangs_257 : decode cL_hangs 257 = .ok (.aload_n 0, 1) := by decide +kernel
theorem dL_hangs_258 : decode cL_hangs 258 = .ok (.iload 8, 2) := by decide +kernel
theorem dL_hangs_260 : decode cL_hangs 260 = .ok (.iconst 3, 1) := by decide +kernel
theorem dL_hangs_261 : decode cL_hangs 261 = .ok (.invokestatic 106, 3) := by decide +kernel
theorem dL_hangs_264 : decode cL_hangs 264 = .ok (.iload 12, 2) := by decide +kernel
theorem dL_hangs_266 : decode cL_hangs 266 = .ok (.ishr, 1) := by decide +kernel
theorem dL_hangs_267 : decode cL_hangs 267 = .ok (.iconst 1, 1) := by decide +kernel
theorem dL_hangs_268 : decode cL_hangs 268 = .ok (.iand, 1) := by decide +kernel
theorem dL_hangs_269 : decode cL_hangs 269 = .ok (.aload_n 0, 1) := by decide +kernel
theorem dL_hangs_270 : decode cL_hangs 270 = .ok (.iload 12, 2) := by decide +kernel
theorem dL_hangs_272 : decode cL_hangs 272 = .ok (.iconst 3, 1) := by decide +kernel
theorem dL_hangs_273 : decode cL_hangs 273 = .ok (.invokestatic 106, 3) := by decide +kernel
theorem dL_hangs_276 : decode cL_hangs 276 = .ok (.iload 8, 2) := by decide +kernel
theorem dL_hangs_278 : decode cL_hangs 278 = .ok (.ishr, 1) := by decide +kernel
theorem dL_hangs_279 : decode cL_hangs 279 = .ok (.iconst 1, 1) := by decide +kernel
theorem dL_hangs_280 : decode cL_hangs 280 = .ok (.iand, 1) := by decide +kernel
theorem dL_hangs_281 : decode cL_hangs 281 = .ok (.if_icmp .ne 7, 3) := by decide +kernel
theorem dL_hangs_284 : decode cL_hangs 284 = .ok (.iconst 1, 1) := by decide +kernel
theorem dL_hangs_285 : decode cL_hangs 285 = .ok (.goto 4, 3) := by decide +kernel
theorem dL_hangs_288 : decode cL_hangs 288 = .ok (.iconst 0, 1) := by decide +kernel
theorem dL_hangs_289 : decode cL_hangs 289 = .ok (.istore 7, 2) := by decide +kernel
theorem dL_hangs_291 : decode cL_hangs 291 = .ok (.iinc 12 1, 3) := by decide +kernel
theorem dL_hangs_294 : decode cL_hangs 294 = .ok (.goto (-48), 3) := by decide +kernel
theorem dL_hangs_297 : decode cL_hangs 297 = .ok (.iload 7, 2) := by decide +kernel
theorem dL_hangs_299 : decode cL_hangs 299 = .ok (.ifCond .eq 22, 3) := by decide +kernel
theorem dL_hangs_302 : decode cL_hangs 302 = .ok (.aload_n 0, 1) := by decide +kernel
theorem dL_hangs_303 : decode cL_hangs 303 = .ok (.iload 8, 2) := by decide +kernel
theorem dL_hangs_305 : decode cL_hangs 305 = .ok (.iconst 3, 1) := by decide +kernel
theorem dL_hangs_306 : decode cL_hangs 306 = .ok (.invokestatic 106, 3) := by decide +kernel
theorem dL_hangs_309 : decode cL_hangs 309 = .ok (.iload 8, 2) := by decide +kernel
theorem dL_hangs_311 : decode cL_hangs 311 = .ok (.ishr, 1) := by decide +kernel
theorem dL_hangs_312 : decode cL_hangs 312 = .ok (.iconst 1, 1) := by decide +kernel
theorem dL_hangs_313 : decode cL_hangs 313 = .ok (.iand, 1) := by decide +kernel
theorem dL_hangs_314 : decode cL_hangs 314 = .ok (.ifCond .ne 7, 3) := by decide +kernel
theorem dL_hangs_317 : decode cL_hangs 317 = .ok (.iconst 1, 1) := by decide +kernel
theorem dL_hangs_318 : decode cL_hangs 318 = .ok (.goto 4, 3) := by decide +kernel
theorem dL_hangs_321 : decode cL_hangs 321 = .ok (.iconst 0, 1) := by decide +kernel
theorem dL_hangs_322 : decode cL_hangs 322 = .ok (.istore 7, 2) := by decide +kernel
theorem dL_hangs_324 : decode cL_hangs 324 = .ok (.iload 4, 2) := by decide +kernel
theorem dL_hangs_326 : decode cL_hangs 326 = .ok (.iload 10, 2) := by decide +kernel
theorem dL_hangs_328 : decode cL_hangs 328 = .ok (.iload 8, 2) := by decide +kernel
theorem dL_hangs_330 : decode cL_hangs 330 = .ok (.ishl, 1) := by decide +kernel
theorem dL_hangs_331 : decode cL_hangs 331 = .ok (.ior, 1) := by decide +kernel
theorem dL_hangs_332 : decode cL_hangs 332 = .ok (.istore 4, 2) := by decide +kernel
theorem dL_hangs_334 : decode cL_hangs 334 = .ok (.iload 5, 2) := by decide +kernel
theorem dL_hangs_336 : decode cL_hangs 336 = .ok (.iload 9, 2) := by decide +kernel
theorem dL_hangs_338 : decode cL_hangs 338 = .ok (.ior, 1) := by decide +kernel
theorem dL_hangs_339 : decode cL_hangs 339 = .ok (.istore 5, 2) := by decide +kernel
theorem dL_hangs_341 : decode cL_hangs 341 = .ok (.iload 6, 2) := by decide +kernel
theorem dL_hangs_343 : decode cL_hangs 343 = .ok (.aload_n 0, 1) := by decide +kernel
theorem dL_hangs_344 : decode cL_hangs 344 = .ok (.iload 8, 2) := by decide +kernel
theorem dL_hangs_346 : decode cL_hangs 346 = .ok (.iconst 3, 1) := by decide +kernel
theorem dL_hangs_347 : decode cL_hangs 347 = .ok (.invokestatic 106, 3) := by decide +kernel
theorem dL_hangs_350 : decode cL_hangs 350 = .ok (.invokestatic 110, 3) := by decide +kernel
theorem dL_hangs_353 : decode cL_hangs 353 = .ok (.iadd, 1) := by decide +kernel
theorem dL_hangs_354 : decode cL_hangs 354 = .ok (.istore 6, 2) := by decide +kernel
theorem dL_hangs_356 : decode cL_hangs 356 = .ok (.iinc 8 1, 3) := by decide +kernel
theorem dL_hangs_359 : decode cL_hangs 359 = .ok (.goto (-263), 3) := by decide +kernel
theorem dL_hangs_362 : decode cL_hangs 362 = .ok (.iload 7, 2) := by decide +kernel
theorem dL_hangs_364 : decode cL_hangs 364 = .ok (.ifCond .eq 47, 3) := by decide +kernel
theorem dL_hangs_367 : decode cL_hangs 367 = .ok (.iload 4, 2) := by decide +kernel
theorem dL_hangs_369 : decode cL_hangs 369 = .ok (.invokestatic 110, 3) := by decide +kernel
theorem dL_hangs_372 : decode cL_hangs 372 = .ok (.aload_n 0, 1) := by decide +kernel
theorem dL_hangs_373 : decode cL_hangs 373 = .ok (.iconst 1, 1) := by decide +kernel
theorem dL_hangs_374 : decode cL_hangs 374 = .ok (.invokestatic 102, 3) := by decide +kernel
theorem dL_hangs_377 : decode cL_hangs 377 = .ok (.if_icmp .ne 34, 3) := by decide +kernel
theorem dL_hangs_380 : decode cL_hangs 380 = .ok (.iload 5, 2) := by decide +kernel
theorem dL_hangs_382 : decode cL_hangs 382 = .ok (.invokestatic 110, 3) := by decide +kernel
theorem dL_hangs_385 : decode cL_hangs 385 = .ok (.aload_n 0, 1) := by decide +kernel
theorem dL_hangs_386 : decode cL_hangs 386 = .ok (.bipush 6, 2) := by decide +kernel
theorem dL_hangs_388 : decode cL_hangs 388 = .ok (.invokestatic 102, 3) := by decide +kernel
theorem dL_hangs_391 : decode cL_hangs 391 = .ok (.if_icmp .ne 20, 3) := by decide +kernel
theorem dL_hangs_394 : decode cL_hangs 394 = .ok (.iload 6, 2) := by decide +kernel
theorem dL_hangs_396 : decode cL_hangs 396 = .ok (.iconst 2, 1) := by decide +kernel
theorem dL_hangs_397 : decode cL_hangs 397 = .ok (.aload_n 0, 1) := by decide +kernel
theorem dL_hangs_398 : decode cL_hangs 398 = .ok (.bipush 7, 2) := by decide +kernel
theorem dL_hangs_400 : decode cL_hangs 400 = .ok (.invokestatic 102, 3) := by decide +kernel
theorem dL_hangs_403 : decode cL_hangs 403 = .ok (.imul, 1) := by decide +kernel
theorem dL_hangs_404 : decode cL_hangs 404 = .ok (.if_icmp .ne 7, 3) := by decide +kernel
theorem dL_hangs_407 : decode cL_hangs 407 = .ok (.iconst 1, 1) := by decide +kernel
theorem dL_hangs_408 : decode cL_hangs 408 = .ok (.goto 4, 3) := by decide +kernel
theorem dL_hangs_411 : decode cL_hangs 411 = .ok (.iconst 0, 1) := by decide +kernel
theorem dL_hangs_412 : decode cL_hangs 412 = .ok (.istore 7, 2) := by decide +kernel
theorem dL_hangs_414 : decode cL_hangs 414 = .ok (.iconst 0, 1) := by decide +kernel
theorem dL_hangs_415 : decode cL_hangs 415 = .ok (.istore 8, 2) := by decide +kernel
theorem dL_hangs_417 : decode cL_hangs 417 = .ok (.iload 8, 2) := by decide +kernel
theorem dL_hangs_419 : decode cL_hangs 419 = .ok (.bipush 8, 2) := by decide +kernel
theorem dL_hangs_421 : decode cL_hangs 421 = .ok (.if_icmp .ge 97, 3) := by decide +kernel
theorem dL_hangs_424 : decode cL_hangs 424 = .ok (.iload 7, 2) := by decide +kernel
theorem dL_hangs_426 : decode cL_hangs 426 = .ok (.ifCond .eq 92, 3) := by decide +kernel
theorem dL_hangs_429 : decode cL_hangs 429 = .ok (.aload_n 0, 1) := by decide +kernel
theorem dL_hangs_430 : decode cL_hangs 430 = .ok (.iload 8, 2) := by decide +kernel
theorem dL_hangs_432 : decode cL_hangs 432 = .ok (.iconst 0, 1) := by decide +kernel
theorem dL_hangs_433 : decode cL_hangs 433 = .ok (.invokestatic 108, 3) := by decide +kernel
theorem dL_hangs_436 : decode cL_hangs 436 = .ok (.istore 9, 2) := by decide +kernel
theorem dL_hangs_438 : decode cL_hangs 438 = .ok (.iload 9, 2) := by decide +kernel
theorem dL_hangs_440 : decode cL_hangs 440 = .ok (.iconst (-1), 1) := by decide +kernel
theorem dL_hangs_441 : decode cL_hangs 441 = .ok (.if_icmp .ne 7, 3) := by decide +kernel
theorem dL_hangs_444 : decode cL_hangs 444 = .ok (.iconst 1, 1) := by decide +kernel
theorem dL_hangs_445 : decode cL_hangs 445 = .ok (.goto 4, 3) := by decide +kernel
theorem dL_hangs_448 : decode cL_hangs 448 = .ok (.iconst 0, 1) := by decide +kernel
theorem dL_hangs_449 : decode cL_hangs 449 = .ok (.iload 5, 2) := by decide +kernel
theorem dL_hangs_451 : decode cL_hangs 451 = .ok (.iload 8, 2) := by decide +kernel
theorem dL_hangs_453 : decode cL_hangs 453 = .ok (.ishr, 1) := by decide +kernel
theorem dL_hangs_454 : decode cL_hangs 454 = .ok (.iconst 1, 1) := by decide +kernel
theorem dL_hangs_455 : decode cL_hangs 455 = .ok (.iand, 1) := by decide +kernel
theorem dL_hangs_456 : decode cL_hangs 456 = .ok (.ifCond .ne 7, 3) := by decide +kernel
theorem dL_hangs_459 : decode cL_hangs 459 = .ok (.iconst 1, 1) := by decide +kernel
theorem dL_hangs_460 : decode cL_hangs 460 = .ok (.goto 4, 3) := by decide +kernel
theorem dL_hangs_463 : decode cL_hangs 463 = .ok (.iconst 0, 1) := by decide +kernel
theorem dL_hangs_464 : decode cL_hangs 464 = .ok (.if_icmp .ne 45, 3) := by decide +kernel
theorem dL_hangs_467 : decode cL_hangs 467 = .ok (.iload 9, 2) := by decide +kernel
theorem dL_hangs_469 : decode cL_hangs 469 = .ok (.sipush 250, 3) := by decide +kernel
theorem dL_hangs_472 : decode cL_hangs 472 = .ok (.if_icmp .gt 37, 3) := by decide +kernel
theorem dL_hangs_475 : decode cL_hangs 475 = .ok (.aload_n 0, 1) := by decide +kernel
theorem dL_hangs_476 : decode cL_hangs 476 = .ok (.iload 8, 2) := by decide +kernel
theorem dL_hangs_478 : decode cL_hangs 478 = .ok (.iconst 2, 1) := by decide +kernel
theorem dL_hangs_479 : decode cL_hangs 479 = .ok (.invokestatic 108, 3) := by decide +kernel
