theorem dL_law_0 : decode cL_law 0 = .ok (.new 7, 3) := by decide +kernel
theorem dL_law_3 : decode cL_law 3 = .ok (.dup, 1) := by decide +kernel
theorem dL_law_4 : decode cL_law 4 = .ok (.invokespecial 9, 3) := by decide +kernel
theorem dL_law_7 : decode cL_law 7 = .ok (.astore_n 1, 1) := by decide +kernel
theorem dL_law_8 : decode cL_law 8 = .ok (.new 10, 3) := by decide +kernel
theorem dL_law_11 : decode cL_law 11 = .ok (.dup, 1) := by decide +kernel
theorem dL_law_12 : decode cL_law 12 = .ok (.invokespecial 12, 3) := by decide +kernel
theorem dL_law_15 : decode cL_law 15 = .ok (.astore_n 2, 1) := by decide +kernel
theorem dL_law_16 : decode cL_law 16 = .ok (.iconst 0, 1) := by decide +kernel
theorem dL_law_17 : decode cL_law 17 = .ok (.istore_n 3, 1) := by decide +kernel
theorem dL_law_18 : decode cL_law 18 = .ok (.iload_n 3, 1) := by decide +kernel
theorem dL_law_19 : decode cL_law 19 = .ok (.aload_n 0, 1) := by decide +kernel
theorem dL_law_20 : decode cL_law 20 = .ok (.arraylength, 1) := by decide +kernel
theorem dL_law_21 : decode cL_law 21 = .ok (.bipush 6, 2) := by decide +kernel
theorem dL_law_23 : decode cL_law 23 = .ok (.isub, 1) := by decide +kernel
theorem dL_law_24 : decode cL_law 24 = .ok (.if_icmp .gt 1492, 3) := by decide +kernel
theorem dL_law_27 : decode cL_law 27 = .ok (.aload_n 0, 1) := by decide +kernel
theorem dL_law_28 : decode cL_law 28 = .ok (.iload_n 3, 1) := by decide +kernel
theorem dL_law_29 : decode cL_law 29 = .ok (.iaload, 1) := by decide +kernel
theorem dL_law_30 : decode cL_law 30 = .ok (.bipush 63, 2) := by decide +kernel
theorem dL_law_32 : decode cL_law 32 = .ok (.iand, 1) := by decide +kernel
theorem dL_law_33 : decode cL_law 33 = .ok (.tableswitch 1477 0 47 #[207, 270, 293, 306, 349, 372, 415, 448, 481, 514, 537, 570, 603, 616, 629, 652, 685, 709, 742, 766, 789, 803, 827, 850, 863, 886, 909, 932, 945, 958, 991, 1024, 1047, 1090, 1123, 1146, 1179, 1192, 1216, 1249, 1282, 1315, 1338, 1351, 1384, 1407, 1431, 1454], 207) := by decide +kernel
theorem dL_law_240 : decode cL_law 240 = .ok (.aload_n 1, 1) := by decide +kernel
theorem dL_law_241 : decode cL_law 241 = .ok (.aload_n 0, 1) := by decide +kernel
theorem dL_law_242 : decode cL_law 242 = .ok (.iload_n 3, 1) := by decide +kernel
theorem dL_law_243 : decode cL_law 243 = .ok (.iconst 1, 1) := by decide +kernel
theorem dL_law_244 : decode cL_law 244 = .ok (.iadd, 1) := by decide +kernel
theorem dL_law_245 : decode cL_law 245 = .ok (.iaload, 1) := by decide +kernel
theorem dL_law_246 : decode cL_law 246 = .ok (.aload_n 0, 1) := by decide +kernel
theorem dL_law_247 : decode cL_law 247 = .ok (.iload_n 3, 1) := by decide +kernel
theorem dL_law_248 : decode cL_law 248 = .ok (.iconst 2, 1) := by decide +kernel
theorem dL_law_249 : decode cL_law 249 = .ok (.iadd, 1) := by decide +kernel
theorem dL_law_250 : decode cL_law 250 = .ok (.iaload, 1) := by decide +kernel
theorem dL_law_251 : decode cL_law 251 = .ok (.aload_n 0, 1) := by decide +kernel
theorem dL_law_252 : decode cL_law 252 = .ok (.iload_n 3, 1) := by decide +kernel
theorem dL_law_253 : decode cL_law 253 = .ok (.iconst 3, 1) := by decide +kernel
theorem dL_law_254 : decode cL_law 254 = .ok (.iadd, 1) := by decide +kernel
theorem dL_law_255 : decode cL_law 255 = .ok (.iaload, 1) := by decide +kernel
theorem dL_law_256 : decode cL_law 256 = .ok (.aload_n 0, 1) := by decide +kernel
theorem dL_law_257 : decode cL_law 257 = .ok (.iload_n 3, 1) := by decide +kernel
theorem dL_law_258 : decode cL_law 258 = .ok (.iconst 4, 1) := by decide +kernel
theorem dL_law_259 : decode cL_law 259 = .ok (.iadd, 1) := by decide +kernel
theorem dL_law_260 : decode cL_law 260 = .ok (.iaload, 1) := by decide +kernel
theorem dL_law_261 : decode cL_law 261 = .ok (.aload_n 0, 1) := by decide +kernel
theorem dL_law_262 : decode cL_law 262 = .ok (.iload_n 3, 1) := by decide +kernel
theorem dL_law_263 : decode cL_law 263 = .ok (.iconst 5, 1) := by decide +kernel
theorem dL_law_264 : decode cL_law 264 = .ok (.iadd, 1) := by decide +kernel
theorem dL_law_265 : decode cL_law 265 = .ok (.iaload, 1) := by decide +kernel
theorem dL_law_266 : decode cL_law 266 = .ok (.invokevirtual 13, 3) := by decide +kernel
theorem dL_law_269 : decode cL_law 269 = .ok (.aload_n 2, 1) := by decide +kernel
theorem dL_law_270 : decode cL_law 270 = .ok (.aload_n 0, 1) := by decide +kernel
theorem dL_law_271 : decode cL_law 271 = .ok (.iload_n 3, 1) := by decide +kernel
theorem dL_law_272 : decode cL_law 272 = .ok (.iconst 1, 1) := by decide +kernel
theorem dL_law_273 : decode cL_law 273 = .ok (.iadd, 1) := by decide +kernel
theorem dL_law_274 : decode cL_law 274 = .ok (.iaload, 1) := by decide +kernel
theorem dL_law_275 : decode cL_law 275 = .ok (.aload_n 0, 1) := by decide +kernel
theorem dL_law_276 : decode cL_law 276 = .ok (.iload_n 3, 1) := by decide +kernel
theorem dL_law_277 : decode cL_law 277 = .ok (.iconst 2, 1) := by decide +kernel
theorem dL_law_278 : decode cL_law 278 = .ok (.iadd, 1) := by decide +kernel
theorem dL_law_279 : decode cL_law 279 = .ok (.iaload, 1) := by decide +kernel
theorem dL_law_280 : decode cL_law 280 = .ok (.aload_n 0, 1) := by decide +kernel
theorem dL_law_281 : decode cL_law 281 = .ok (.iload_n 3, 1) := by decide +kernel
theorem dL_law_282 : decode cL_law 282 = .ok (.iconst 3, 1) := by decide +kernel
theorem dL_law_283 : decode cL_law 283 = .ok (.iadd, 1) := by decide +kernel
theorem dL_law_284 : decode cL_law 284 = .ok (.iaload, 1) := by decide +kernel
theorem dL_law_285 : decode cL_law 285 = .ok (.aload_n 0, 1) := by decide +kernel
theorem dL_law_286 : decode cL_law 286 = .ok (.iload_n 3, 1) := by decide +kernel
theorem dL_law_287 : decode cL_law 287 = .ok (.iconst 4, 1) := by decide +kernel
theorem dL_law_288 : decode cL_law 288 = .ok (.iadd, 1) := by decide +kernel
theorem dL_law_289 : decode cL_law 289 = .ok (.iaload, 1) := by decide +kernel
theorem dL_law_290 : decode cL_law 290 = .ok (.aload_n 0, 1) := by decide +kernel
theorem dL_law_291 : decode cL_law 291 = .ok (.iload_n 3, 1) := by decide +kernel
theorem dL_law_292 : decode cL_law 292 = .ok (.iconst 5, 1) := by decide +kernel
theorem dL_law_293 : decode cL_law 293 = .ok (.iadd, 1) := by decide +kernel
theorem dL_law_294 : decode cL_law 294 = .ok (.iaload, 1) := by decide +kernel
theorem dL_law_295 : decode cL_law 295 = .ok (.invokevirtual 17, 3) := by decide +kernel
theorem dL_law_298 : decode cL_law 298 = .ok (.if_icmp .eq 1212, 3) := by decide +kernel
theorem dL_law_301 : decode cL_law 301 = .ok (.iconst 0, 1) := by decide +kernel
theorem dL_law_302 : decode cL_law 302 = .ok (.ireturn, 1) := by decide +kernel
theorem dL_law_303 : decode cL_law 303 = .ok (.aload_n 1, 1) := by decide +kernel
theorem dL_law_304 : decode cL_law 304 = .ok (.aload_n 0, 1) := by decide +kernel
theorem dL_law_305 : decode cL_law 305 = .ok (.iload_n 3, 1) := by decide +kernel
theorem dL_law_306 : decode cL_law 306 = .ok (.iconst 1, 1) := by decide +kernel
theorem dL_law_307 : decode cL_law 307 = .ok (.iadd, 1) := by decide +kernel
theorem dL_law_308 : decode cL_law 308 = .ok (.iaload, 1) := by decide +kernel
theorem dL_law_309 : decode cL_law 309 = .ok (.invokevirtual 18, 3) := by decide +kernel
theorem dL_law_312 : decode cL_law 312 = .ok (.aload_n 2, 1) := by decide +kernel
theorem dL_law_313 : decode cL_law 313 = .ok (.aload_n 0, 1) := by decide +kernel
theorem dL_law_314 : decode cL_law 314 = .ok (.iload_n 3, 1) := by decide +kernel
theorem dL_law_315 : decode cL_law 315 = .ok (.iconst 1, 1) := by decide +kernel
theorem dL_law_316 : decode cL_law 316 = .ok (.iadd, 1) := by decide +kernel
theorem dL_law_317 : decode cL_law 317 = .ok (.iaload, 1) := by decide +kernel
theorem dL_law_318 : decode cL_law 318 = .ok (.invokevirtual 22, 3) := by decide +kernel
theorem dL_law_321 : decode cL_law 321 = .ok (.if_icmp .eq 1189, 3) := by decide +kernel
theorem dL_law_324 : decode cL_law 324 = .ok (.iconst 0, 1) := by decide +kernel
theorem dL_law_325 : decode cL_law 325 = .ok (.ireturn, 1) := by decide +kernel
theorem dL_law_326 : decode cL_law 326 = .ok (.aload_n 1, 1) := by decide +kernel
theorem dL_law_327 : decode cL_law 327 = .ok (.invokevirtual 23, 3) := by decide +kernel
theorem dL_law_330 : decode cL_law 330 = .ok (.aload_n 2, 1) := by decide +kernel
theorem dL_law_331 : decode cL_law 331 = .ok (.invokevirtual 27, 3) := by decide +kernel
theorem dL_law_334 : decode cL_law 334 = .ok (.if_icmp .eq 1176, 3) := by decide +kernel
theorem dL_law_337 : decode cL_law 337 = .ok (.iconst 0, 1) := by decide +kernel
theorem dL_law_338 : decode cL_law 338 = .ok (.ireturn, 1) := by decide +kernel
theorem dL_law_339 : decode cL_law 339 = .ok (.aload_n 1, 1) := by decide +kernel
theorem dL_law_340 : decode cL_law 340 = .ok (.aload_n 0, 1) := by decide +kernel
theorem dL_law_341 : decode cL_law 341 = .ok (.iload_n 3, 1) := by decide +kernel
theorem dL_law_342 : decode cL_law 342 = .ok (.iconst 1, 1) := by decide +kernel
theorem dL_law_343 : decode cL_law 343 = .ok (.iadd, 1) := by decide +kernel
theorem dL_law_344 : decode cL_law 344 = .ok (.iaload, 1) := by decide +kernel
theorem dL_law_345 : decode cL_law 345 = .ok (.aload_n 0, 1) := by decide +kernel
theorem dL_law_346 : decode cL_law 346 = .ok (.iload_n 3, 1) := by decide +kernel
theorem dL_law_347 : decode cL_law 347 = .ok (.iconst 2, 1) := by decide +kernel
theorem dL_law_348 : decode cL_law 348 = .ok (.iadd, 1) := by decide +kernel
theorem dL_law_349 : decode cL_law 349 = .ok (.iaload, 1) := by decide +kernel
theorem dL_law_350 : decode cL_law 350 = .ok (.aload_n 0, 1) := by decide +kernel
theorem dL_law_351 : decode cL_law 351 = .ok (.iload_n 3, 1) := by decide +kernel
theorem dL_law_352 : decode cL_law 352 = .ok (.iconst 3, 1) := by decide +kernel
theorem dL_law_353 : decode cL_law 353 = .ok (.iadd, 1) := by decide +kernel
theorem dL_law_354 : decode cL_law 354 = .ok (.iaload, 1) := by decide +kernel
theorem dL_law_355 : decode cL_law 355 = .ok (.invokevirtual 28, 3) := by decide +kernel
theorem dL_law_358 : decode cL_law 358 = .ok (.aload_n 2, 1) := by decide +kernel
theorem dL_law_359 : decode cL_law 359 = .ok (.aload_n 0, 1) := by decide +kernel
theorem dL_law_360 : decode cL_law 360 = .ok (.iload_n 3, 1) := by decide +kernel
theorem dL_law_361 : decode cL_law 361 = .ok (.iconst 1, 1) := by decide +kernel
theorem dL_law_362 : decode cL_law 362 = .ok (.iadd, 1) := by decide +kernel
theorem dL_law_363 : decode cL_law 363 = .ok (.iaload, 1) := by decide +kernel
theorem dL_law_364 : decode cL_law 364 = .ok (.aload_n 0, 1) := by decide +kernel
theorem dL_law_365 : decode cL_law 365 = .ok (.iload_n 3, 1) := by decide +kernel
theorem dL_law_366 : decode cL_law 366 = .ok (.iconst 2, 1) := by decide +kernel
theorem dL_law_367 : decode cL_law 367 = .ok (.iadd, 1) := by decide +kernel
theorem dL_law_368 : decode cL_law 368 = .ok (.iaload, 1) := by decide +kernel
theorem dL_law_369 : decode cL_law 369 = .ok (.aload_n 0, 1) := by decide +kernel
theorem dL_law_370 : decode cL_law 370 = .ok (.iload_n 3, 1) := by decide +kernel
theorem dL_law_371 : decode cL_law 371 = .ok (.iconst 3, 1) := by decide +kernel
theorem dL_law_372 : decode cL_law 372 = .ok (.iadd, 1) := by decide +kernel
theorem dL_law_373 : decode cL_law 373 = .ok (.iaload, 1) := by decide +kernel
theorem dL_law_374 : decode cL_law 374 = .ok (.invokevirtual 32, 3) := by decide +kernel
theorem dL_law_377 : decode cL_law 377 = .ok (.if_icmp .eq 1133, 3) := by decide +kernel
theorem dL_law_380 : decode cL_law 380 = .ok (.iconst 0, 1) := by decide +kernel
theorem dL_law_381 : decode cL_law 381 = .ok (.ireturn, 1) := by decide +kernel
theorem dL_law_382 : decode cL_law 382 = .ok (.aload_n 1, 1) := by decide +kernel
theorem dL_law_383 : decode cL_law 383 = .ok (.aload_n 0, 1) := by decide +kernel
theorem dL_law_384 : decode cL_law 384 = .ok (.iload_n 3, 1) := by decide +kernel
theorem dL_law_385 : decode cL_law 385 = .ok (.iconst 1, 1) := by decide +kernel
theorem dL_law_386 : decode cL_law 386 = .ok (.iadd, 1) := by decide +kernel
theorem dL_law_387 : decode cL_law 387 = .ok (.iaload, 1) := by decide +kernel
theorem dL_law_388 : decode cL_law 388 = .ok (.invokevirtual 33, 3) := by decide +kernel
theorem dL_law_391 : decode cL_law 391 = .ok (.aload_n 2, 1) := by decide +kernel
theorem dL_law_392 : decode cL_law 392 = .ok (.aload_n 0, 1) := by decide +kernel
theorem dL_law_393 : decode cL_law 393 = .ok (.iload_n 3, 1) := by decide +kernel
theorem dL_law_394 : decode cL_law 394 = .ok (.iconst 1, 1) := by decide +kernel
theorem dL_law_395 : decode cL_law 395 = .ok (.iadd, 1) := by decide +kernel
theorem dL_law_396 : decode cL_law 396 = .ok (.iaload, 1) := by decide +kernel
theorem dL_law_397 : decode cL_law 397 = .ok (.invokevirtual 37, 3) := by decide +kernel
theorem dL_law_400 : decode cL_law 400 = .ok (.if_icmp .eq 1110, 3) := by decide +kernel
theorem dL_law_403 : decode cL_law 403 = .ok (.iconst 0, 1) := by decide +kernel
theorem dL_law_404 : decode cL_law 404 = .ok (.ireturn, 1) := by decide +kernel
theorem dL_law_405 : decode cL_law 405 = .ok (.aload_n 1, 1) := by decide +kernel
theorem dL_law_406 : decode cL_law 406 = .ok (.aload_n 0, 1) := by decide +kernel
theorem dL_law_407 : decode cL_law 407 = .ok (.iload_n 3, 1) := by decide +kernel
theorem dL_law_408 : decode cL_law 408 = .ok (.iconst 1, 1) := by decide +kernel
theorem dL_law_409 : decode cL_law 409 = .ok (.iadd, 1) := by decide +kernel
theorem dL_law_410 : decode cL_law 410 = .ok (.iaload, 1) := by decide +kernel
theorem dL_law_411 : decode cL_law 411 = .ok (.aload_n 0, 1) := by decide +kernel
theorem dL_law_412 : decode cL_law 412 = .ok (.iload_n 3, 1) := by decide +kernel
theorem dL_law_413 : decode cL_law 413 = .ok (.iconst 2, 1) := by decide +kernel
theorem dL_law_414 : decode cL_law 414 = .ok (.iadd, 1) := by decide +kernel
theorem dL_law_415 : decode cL_law 415 = .ok (.iaload, 1) := by decide +kernel
theorem dL_law_416 : decode cL_law 416 = .ok (.aload_n 0, 1) := by decide +kernel
theorem dL_law_417 : decode cL_law 417 = .ok (.iload_n 3, 1) := by decide +kernel
theorem dL_law_418 : decode cL_law 418 = .ok (.iconst 3, 1) := by decide +kernel
theorem dL_law_419 : decode cL_law 419 = .ok (.iadd, 1) := by decide +kernel
theorem dL_law_420 : decode cL_law 420 = .ok (.iaload, 1) := by decide +kernel
theorem dL_law_421 : decode cL_law 421 = .ok (.invokevirtual 38, 3) := by decide +kernel
theorem dL_law_424 : decode cL_law 424 = .ok (.aload_n 2, 1) := by decide +kernel
theorem dL_law_425 : decode cL_law 425 = .ok (.aload_n 0, 1) := by decide +kernel
theorem dL_law_426 : decode cL_law 426 = .ok (.iload_n 3, 1) := by decide +kernel
theorem dL_law_427 : decode cL_law 427 = .ok (.iconst 1, 1) := by decide +kernel
theorem dL_law_428 : decode cL_law 428 = .ok (.iadd, 1) := by decide +kernel
theorem dL_law_429 : decode cL_law 429 = .ok (.iaload, 1) := by decide +kernel
theorem dL_law_430 : decode cL_law 430 = .ok (.aload_n 0, 1) := by decide +kernel
theorem dL_law_431 : decode cL_law 431 = .ok (.iload_n 3, 1) := by decide +kernel
theorem dL_law_432 : decode cL_law 432 = .ok (.iconst 2, 1) := by decide +kernel
theorem dL_law_433 : decode cL_law 433 = .ok (.iadd, 1) := by decide +kernel
theorem dL_law_434 : decode cL_law 434 = .ok (.iaload, 1) := by decide +kernel
theorem dL_law_435 : decode cL_law 435 = .ok (.aload_n 0, 1) := by decide +kernel
theorem dL_law_436 : decode cL_law 436 = .ok (.iload_n 3, 1) := by decide +kernel
theorem dL_law_437 : decode cL_law 437 = .ok (.iconst 3, 1) := by decide +kernel
theorem dL_law_438 : decode cL_law 438 = .ok (.iadd, 1) := by decide +kernel
theorem dL_law_439 : decode cL_law 439 = .ok (.iaload, 1) := by decide +kernel
theorem dL_law_440 : decode cL_law 440 = .ok (.invokevirtual 41, 3) := by decide +kernel
theorem dL_law_443 : decode cL_law 443 = .ok (.if_icmp .eq 1067, 3) := by decide +kernel
theorem dL_law_446 : decode cL_law 446 = .ok (.iconst 0, 1) := by decide +kernel
theorem dL_law_447 : decode cL_law 447 = .ok (.ireturn, 1) := by decide +kernel
theorem dL_law_448 : decode cL_law 448 = .ok (.aload_n 1, 1) := by decide +kernel
theorem dL_law_449 : decode cL_law 449 = .ok (.aload_n 0, 1) := by decide +kernel
theorem dL_law_450 : decode cL_law 450 = .ok (.iload_n 3, 1) := by decide +kernel
theorem dL_law_451 : decode cL_law 451 = .ok (.iconst 1, 1) := by decide +kernel
theorem dL_law_452 : decode cL_law 452 = .ok (.iadd, 1) := by decide +kernel
theorem dL_law_453 : decode cL_law 453 = .ok (.iaload, 1) := by decide +kernel
theorem dL_law_454 : decode cL_law 454 = .ok (.aload_n 0, 1) := by decide +kernel
theorem dL_law_455 : decode cL_law 455 = .ok (.iload_n 3, 1) := by decide +kernel
theorem dL_law_456 : decode cL_law 456 = .ok (.iconst 2, 1) := by decide +kernel
theorem dL_law_457 : decode cL_law 457 = .ok (.iadd, 1) := by decide +kernel
theorem dL_law_458 : decode cL_law 458 = .ok (.iaload, 1) := by decide +kernel
theorem dL_law_459 : decode cL_law 459 = .ok (.invokevirtual 42, 3) := by decide +kernel
theorem dL_law_462 : decode cL_law 462 = .ok (.aload_n 2, 1) := by decide +kernel
theorem dL_law_463 : decode cL_law 463 = .ok (.aload_n 0, 1) := by decide +kernel
theorem dL_law_464 : decode cL_law 464 = .ok (.iload_n 3, 1) := by decide +kernel
theorem dL_law_465 : decode cL_law 465 = .ok (.iconst 1, 1) := by decide +kernel
theorem dL_law_466 : decode cL_law 466 = .ok (.iadd, 1) := by decide +kernel
theorem dL_law_467 : decode cL_law 467 = .ok (.iaload, 1) := by decide +kernel
theorem dL_law_468 : decode cL_law 468 = .ok (.aload_n 0, 1) := by decide +kernel
theorem dL_law_469 : decode cL_law 469 = .ok (.iload_n 3, 1) := by decide +kernel
theorem dL_law_470 : decode cL_law 470 = .ok (.iconst 2, 1) := by decide +kernel
theorem dL_law_471 : decode cL_law 471 = .ok (.iadd, 1) := by decide +kernel
theorem dL_law_472 : decode cL_law 472 = .ok (.iaload, 1) := by decide +kernel
theorem dL_law_473 : decode cL_law 473 = .ok (.invokevirtual 46, 3) := by decide +kernel
theorem dL_law_476 : decode cL_law 476 = .ok (.if_icmp .eq 1034, 3) := by decide +kernel
theorem dL_law_479 : decode cL_law 479 = .ok (.iconst 0, 1) := by decide +kernel
theorem dL_law_480 : decode cL_law 480 = .ok (.ireturn, 1) := by decide +kernel
theorem dL_law_481 : decode cL_law 481 = .ok (.aload_n 1, 1) := by decide +kernel
theorem dL_law_482 : decode cL_law 482 = .ok (.aload_n 0, 1) := by decide +kernel
theorem dL_law_483 : decode cL_law 483 = .ok (.iload_n 3, 1) := by decide +kernel
theorem dL_law_484 : decode cL_law 484 = .ok (.iconst 1, 1) := by decide +kernel
theorem dL_law_485 : decode cL_law 485 = .ok (.iadd, 1) := by decide +kernel
theorem dL_law_486 : decode cL_law 486 = .ok (.iaload, 1) := by decide +kernel
theorem dL_law_487 : decode cL_law 487 = .ok (.aload_n 0, 1) := by decide +kernel
theorem dL_law_488 : decode cL_law 488 = .ok (.iload_n 3, 1) := by decide +kernel
theorem dL_law_489 : decode cL_law 489 = .ok (.iconst 2, 1) := by decide +kernel
theorem dL_law_490 : decode cL_law 490 = .ok (.iadd, 1) := by decide +kernel
theorem dL_law_491 : decode cL_law 491 = .ok (.iaload, 1) := by decide +kernel
theorem dL_law_492 : decode cL_law 492 = .ok (.invokevirtual 47, 3) := by decide +kernel
theorem dL_law_495 : decode cL_law 495 = .ok (.aload_n 2, 1) := by decide +kernel
theorem dL_law_496 : decode cL_law 496 = .ok (.aload_n 0, 1) := by decide +kernel
theorem dL_law_497 : decode cL_law 497 = .ok (.iload_n 3, 1) := by decide +kernel
theorem dL_law_498 : decode cL_law 498 = .ok (.iconst 1, 1) := by decide +kernel
theorem dL_law_499 : decode cL_law 499 = .ok (.iadd, 1) := by decide +kernel
theorem dL_law_500 : decode cL_law 500 = .ok (.iaload, 1) := by decide +kernel
theorem dL_law_501 : decode cL_law 501 = .ok (.aload_n 0, 1) := by decide +kernel
theorem dL_law_502 : decode cL_law 502 = .ok (.iload_n 3, 1) := by decide +kernel
theorem dL_law_503 : decode cL_law 503 = .ok (.iconst 2, 1) := by decide +kernel
theorem dL_law_504 : decode cL_law 504 = .ok (.iadd, 1) := by decide +kernel
theorem dL_law_505 : decode cL_law 505 = .ok (.iaload, 1) := by decide +kernel
theorem dL_law_506 : decode cL_law 506 = .ok (.invokevirtual 50, 3) := by decide +kernel
theorem dL_law_509 : decode cL_law 509 = .ok (.if_icmp .eq 1001, 3) := by decide +kernel
theorem dL_law_512 : decode cL_law 512 = .ok (.iconst 0, 1) := by decide +kernel
theorem dL_law_513 : decode cL_law 513 = .ok (.ireturn, 1) := by decide +kernel
theorem dL_law_514 : decode cL_law 514 = .ok (.aload_n 1, 1) := by decide +kernel
theorem dL_law_515 : decode cL_law 515 = .ok (.aload_n 0, 1) := by decide +kernel
theorem dL_law_516 : decode cL_law 516 = .ok (.iload_n 3, 1) := by decide +kernel
theorem dL_law_517 : decode cL_law 517 = .ok (.iconst 1, 1) := by decide +kernel
theorem dL_law_518 : decode cL_law 518 = .ok (.iadd, 1) := by decide +kernel
theorem dL_law_519 : decode cL_law 519 = .ok (.iaload, 1) := by decide +kernel
theorem dL_law_520 : decode cL_law 520 = .ok (.aload_n 0, 1) := by decide +kernel
theorem dL_law_521 : decode cL_law 521 = .ok (.iload_n 3, 1) := by decide +kernel
theorem dL_law_522 : decode cL_law 522 = .ok (.iconst 2, 1) := by decide +kernel
theorem dL_law_523 : decode cL_law 523 = .ok (.iadd, 1) := by decide +kernel
theorem dL_law_524 : decode cL_law 524 = .ok (.iaload, 1) := by decide +kernel
theorem dL_law_525 : decode cL_law 525 = .ok (.invokevirtual 51, 3) := by decide +kernel
theorem dL_law_528 : decode cL_law 528 = .ok (.aload_n 2, 1) := by decide +kernel
theorem dL_law_529 : decode cL_law 529 = .ok (.aload_n 0, 1) := by decide +kernel
theorem dL_law_530 : decode cL_law 530 = .ok (.iload_n 3, 1) := by decide +kernel
theorem dL_law_531 : decode cL_law 531 = .ok (.iconst 1, 1) := by decide +kernel
theorem dL_law_532 : decode cL_law 532 = .ok (.iadd, 1) := by decide +kernel
theorem dL_law_533 : decode cL_law 533 = .ok (.iaload, 1) := by decide +kernel
theorem dL_law_534 : decode cL_law 534 = .ok (.aload_n 0, 1) := by decide +kernel
theorem dL_law_535 : decode cL_law 535 = .ok (.iload_n 3, 1) := by decide +kernel
theorem dL_law_536 : decode cL_law 536 = .ok (.iconst 2, 1) := by decide +kernel
theorem dL_law_537 : decode cL_law 537 = .ok (.iadd, 1) := by decide +kernel
theorem dL_law_538 : decode cL_law 538 = .ok (.iaload, 1) := by decide +kernel
theorem dL_law_539 : decode cL_law 539 = .ok (.invokevirtual 55, 3) := by decide +kernel
theorem dL_law_542 : decode cL_law 542 = .ok (.if_icmp .eq 968, 3) := by decide +kernel
theorem dL_law_545 : decode cL_law 545 = .ok (.iconst 0, 1) := by decide +kernel
theorem dL_law_546 : decode cL_law 546 = .ok (.ireturn, 1) := by decide +kernel
theorem dL_law_547 : decode cL_law 547 = .ok (.aload_n 1, 1) := by decide +kernel
theorem dL_law_548 : decode cL_law 548 = .ok (.aload_n 0, 1) := by decide +kernel
theorem dL_law_549 : decode cL_law 549 = .ok (.iload_n 3, 1) := by decide +kernel
theorem dL_law_550 : decode cL_law 550 = .ok (.iconst 1, 1) := by decide +kernel
theorem dL_law_551 : decode cL_law 551 = .ok (.iadd, 1) := by decide +kernel
theorem dL_law_552 : decode cL_law 552 = .ok (.iaload, 1) := by decide +kernel
theorem dL_law_553 : decode cL_law 553 = .ok (.invokevirtual 56, 3) := by decide +kernel
theorem dL_law_556 : decode cL_law 556 = .ok (.aload_n 2, 1) := by decide +kernel
theorem dL_law_557 : decode cL_law 557 = .ok (.aload_n 0, 1) := by decide +kernel
theorem dL_law_558 : decode cL_law 558 = .ok (.iload_n 3, 1) := by decide +kernel
theorem dL_law_559 : decode cL_law 559 = .ok (.iconst 1, 1) := by decide +kernel
theorem dL_law_560 : decode cL_law 560 = .ok (.iadd, 1) := by decide +kernel
theorem dL_law_561 : decode cL_law 561 = .ok (.iaload, 1) := by decide +kernel
theorem dL_law_562 : decode cL_law 562 = .ok (.invokevirtual 59, 3) := by decide +kernel
theorem dL_law_565 : decode cL_law 565 = .ok (.if_icmp .eq 945, 3) := by decide +kernel
theorem dL_law_568 : decode cL_law 568 = .ok (.iconst 0, 1) := by decide +kernel
theorem dL_law_569 : decode cL_law 569 = .ok (.ireturn, 1) := by decide +kernel
theorem dL_law_570 : decode cL_law 570 = .ok (.aload_n 1, 1) := by decide +kernel
theorem dL_law_571 : decode cL_law 571 = .ok (.aload_n 0, 1) := by decide +kernel
theorem dL_law_572 : decode cL_law 572 = .ok (.iload_n 3, 1) := by decide +kernel
theorem dL_law_573 : decode cL_law 573 = .ok (.iconst 1, 1) := by decide +kernel
theorem dL_law_574 : decode cL_law 574 = .ok (.iadd, 1) := by decide +kernel
theorem dL_law_575 : decode cL_law 575 = .ok (.iaload, 1) := by decide +kernel
theorem dL_law_576 : decode cL_law 576 = .ok (.aload_n 0, 1) := by decide +kernel
theorem dL_law_577 : decode cL_law 577 = .ok (.iload_n 3, 1) := by decide +kernel
theorem dL_law_578 : decode cL_law 578 = .ok (.iconst 2, 1) := by decide +kernel
theorem dL_law_579 : decode cL_law 579 = .ok (.iadd, 1) := by decide +kernel
theorem dL_law_580 : decode cL_law 580 = .ok (.iaload, 1) := by decide +kernel
theorem dL_law_581 : decode cL_law 581 = .ok (.invokevirtual 60, 3) := by decide +kernel
theorem dL_law_584 : decode cL_law 584 = .ok (.aload_n 2, 1) := by decide +kernel
theorem dL_law_585 : decode cL_law 585 = .ok (.aload_n 0, 1) := by decide +kernel
theorem dL_law_586 : decode cL_law 586 = .ok (.iload_n 3, 1) := by decide +kernel
theorem dL_law_587 : decode cL_law 587 = .ok (.iconst 1, 1) := by decide +kernel
theorem dL_law_588 : decode cL_law 588 = .ok (.iadd, 1) := by decide +kernel
theorem dL_law_589 : decode cL_law 589 = .ok (.iaload, 1) := by decide +kernel
theorem dL_law_590 : decode cL_law 590 = .ok (.aload_n 0, 1) := by decide +kernel
theorem dL_law_591 : decode cL_law 591 = .ok (.iload_n 3, 1) := by decide +kernel
theorem dL_law_592 : decode cL_law 592 = .ok (.iconst 2, 1) := by decide +kernel
theorem dL_law_593 : decode cL_law 593 = .ok (.iadd, 1) := by decide +kernel
theorem dL_law_594 : decode cL_law 594 = .ok (.iaload, 1) := by decide +kernel
theorem dL_law_595 : decode cL_law 595 = .ok (.invokevirtual 63, 3) := by decide +kernel
theorem dL_law_598 : decode cL_law 598 = .ok (.if_icmp .eq 912, 3) := by decide +kernel
theorem dL_law_601 : decode cL_law 601 = .ok (.iconst 0, 1) := by decide +kernel
theorem dL_law_602 : decode cL_law 602 = .ok (.ireturn, 1) := by decide +kernel
theorem dL_law_603 : decode cL_law 603 = .ok (.aload_n 1, 1) := by decide +kernel
theorem dL_law_604 : decode cL_law 604 = .ok (.aload_n 0, 1) := by decide +kernel
theorem dL_law_605 : decode cL_law 605 = .ok (.iload_n 3, 1) := by decide +kernel
theorem dL_law_606 : decode cL_law 606 = .ok (.iconst 1, 1) := by decide +kernel
theorem dL_law_607 : decode cL_law 607 = .ok (.iadd, 1) := by decide +kernel
theorem dL_law_608 : decode cL_law 608 = .ok (.iaload, 1) := by decide +kernel
theorem dL_law_609 : decode cL_law 609 = .ok (.aload_n 0, 1) := by decide +kernel
theorem dL_law_610 : decode cL_law 610 = .ok (.iload_n 3, 1) := by decide +kernel
theorem dL_law_611 : decode cL_law 611 = .ok (.iconst 2, 1) := by decide +kernel
theorem dL_law_612 : decode cL_law 612 = .ok (.iadd, 1) := by decide +kernel
theorem dL_law_613 : decode cL_law 613 = .ok (.iaload, 1) := by decide +kernel
theorem dL_law_614 : decode cL_law 614 = .ok (.invokevirtual 64, 3) := by decide +kernel
theorem dL_law_617 : decode cL_law 617 = .ok (.aload_n 2, 1) := by decide +kernel
theorem dL_law_618 : decode cL_law 618 = .ok (.aload_n 0, 1) := by decide +kernel
theorem dL_law_619 : decode cL_law 619 = .ok (.iload_n 3, 1) := by decide +kernel
theorem dL_law_620 : decode cL_law 620 = .ok (.iconst 1, 1) := by decide +kernel
theorem dL_law_621 : decode cL_law 621 = .ok (.iadd, 1) := by decide +kernel
theorem dL_law_622 : decode cL_law 622 = .ok (.iaload, 1) := by decide +kernel
theorem dL_law_623 : decode cL_law 623 = .ok (.aload_n 0, 1) := by decide +kernel
theorem dL_law_624 : decode cL_law 624 = .ok (.iload_n 3, 1) := by decide +kernel
theorem dL_law_625 : decode cL_law 625 = .ok (.iconst 2, 1) := by decide +kernel
theorem dL_law_626 : decode cL_law 626 = .ok (.iadd, 1) := by decide +kernel
theorem dL_law_627 : decode cL_law 627 = .ok (.iaload, 1) := by decide +kernel
theorem dL_law_628 : decode cL_law 628 = .ok (.invokevirtual 67, 3) := by decide +kernel
theorem dL_law_631 : decode cL_law 631 = .ok (.if_icmp .eq 879, 3) := by decide +kernel
theorem dL_law_634 : decode cL_law 634 = .ok (.iconst 0, 1) := by decide +kernel
theorem dL_law_635 : decode cL_law 635 = .ok (.ireturn, 1) := by decide +kernel
theorem dL_law_636 : decode cL_law 636 = .ok (.aload_n 1, 1) := by decide +kernel
theorem dL_law_637 : decode cL_law 637 = .ok (.invokevirtual 68, 3) := by decide +kernel
theorem dL_law_640 : decode cL_law 640 = .ok (.aload_n 2, 1) := by decide +kernel
theorem dL_law_641 : decode cL_law 641 = .ok (.invokevirtual 71, 3) := by decide +kernel
theorem dL_law_644 : decode cL_law 644 = .ok (.if_icmp .eq 866, 3) := by decide +kernel
theorem dL_law_647 : decode cL_law 647 = .ok (.iconst 0, 1) := by decide +kernel
theorem dL_law_648 : decode cL_law 648 = .ok (.ireturn, 1) := by decide +kernel
theorem dL_law_649 : decode cL_law 649 = .ok (.aload_n 1, 1) := by decide +kernel
theorem dL_law_650 : decode cL_law 650 = .ok (.invokevirtual 72, 3) := by decide +kernel
theorem dL_law_653 : decode cL_law 653 = .ok (.aload_n 2, 1) := by decide +kernel
theorem dL_law_654 : decode cL_law 654 = .ok (.invokevirtual 75, 3) := by decide +kernel
theorem dL_law_657 : decode cL_law 657 = .ok (.if_icmp .eq 853, 3) := by decide +kernel
theorem dL_law_660 : decode cL_law 660 = .ok (.iconst 0, 1) := by decide +kernel
theorem dL_law_661 : decode cL_law 661 = .ok (.ireturn, 1) := by decide +kernel
theorem dL_law_662 : decode cL_law 662 = .ok (.aload_n 1, 1) := by decide +kernel
theorem dL_law_663 : decode cL_law 663 = .ok (.aload_n 0, 1) := by decide +kernel
theorem dL_law_664 : decode cL_law 664 = .ok (.iload_n 3, 1) := by decide +kernel
theorem dL_law_665 : decode cL_law 665 = .ok (.iconst 1, 1) := by decide +kernel
theorem dL_law_666 : decode cL_law 666 = .ok (.iadd, 1) := by decide +kernel
theorem dL_law_667 : decode cL_law 667 = .ok (.iaload, 1) := by decide +kernel
theorem dL_law_668 : decode cL_law 668 = .ok (.invokevirtual 76, 3) := by decide +kernel
theorem dL_law_671 : decode cL_law 671 = .ok (.aload_n 2, 1) := by decide +kernel
theorem dL_law_672 : decode cL_law 672 = .ok (.aload_n 0, 1) := by decide +kernel
theorem dL_law_673 : decode cL_law 673 = .ok (.iload_n 3, 1) := by decide +kernel
theorem dL_law_674 : decode cL_law 674 = .ok (.iconst 1, 1) := by decide +kernel
theorem dL_law_675 : decode cL_law 675 = .ok (.iadd, 1) := by decide +kernel
theorem dL_law_676 : decode cL_law 676 = .ok (.iaload, 1) := by decide +kernel
theorem dL_law_677 : decode cL_law 677 = .ok (.invokevirtual 79, 3) := by decide +kernel
theorem dL_law_680 : decode cL_law 680 = .ok (.if_icmp .eq 830, 3) := by decide +kernel
theorem dL_law_683 : decode cL_law 683 = .ok (.iconst 0, 1) := by decide +kernel
theorem dL_law_684 : decode cL_law 684 = .ok (.ireturn, 1) := by decide +kernel
theorem dL_law_685 : decode cL_law 685 = .ok (.aload_n 1, 1) := by decide +kernel
theorem dL_law_686 : decode cL_law 686 = .ok (.aload_n 0, 1) := by decide +kernel
theorem dL_law_687 : decode cL_law 687 = .ok (.iload_n 3, 1) := by decide +kernel
theorem dL_law_688 : decode cL_law 688 = .ok (.iconst 1, 1) := by decide +kernel
theorem dL_law_689 : decode cL_law 689 = .ok (.iadd, 1) := by decide +kernel
theorem dL_law_690 : decode cL_law 690 = .ok (.iaload, 1) := by decide +kernel
theorem dL_law_691 : decode cL_law 691 = .ok (.aload_n 0, 1) := by decide +kernel
theorem dL_law_692 : decode cL_law 692 = .ok (.iload_n 3, 1) := by decide +kernel
theorem dL_law_693 : decode cL_law 693 = .ok (.iconst 2, 1) := by decide +kernel
theorem dL_law_694 : decode cL_law 694 = .ok (.iadd, 1) := by decide +kernel
theorem dL_law_695 : decode cL_law 695 = .ok (.iaload, 1) := by decide +kernel
theorem dL_law_696 : decode cL_law 696 = .ok (.invokevirtual 80, 3) := by decide +kernel
theorem dL_law_699 : decode cL_law 699 = .ok (.aload_n 2, 1) := by decide +kernel
theorem dL_law_700 : decode cL_law 700 = .ok (.aload_n 0, 1) := by decide +kernel
theorem dL_law_701 : decode cL_law 701 = .ok (.iload_n 3, 1) := by decide +kernel
theorem dL_law_702 : decode cL_law 702 = .ok (.iconst 1, 1) := by decide +kernel
theorem dL_law_703 : decode cL_law 703 = .ok (.iadd, 1) := by decide +kernel
theorem dL_law_704 : decode cL_law 704 = .ok (.iaload, 1) := by decide +kernel
theorem dL_law_705 : decode cL_law 705 = .ok (.aload_n 0, 1) := by decide +kernel
theorem dL_law_706 : decode cL_law 706 = .ok (.iload_n 3, 1) := by decide +kernel
theorem dL_law_707 : decode cL_law 707 = .ok (.iconst 2, 1) := by decide +kernel
theorem dL_law_708 : decode cL_law 708 = .ok (.iadd, 1) := by decide +kernel
theorem dL_law_709 : decode cL_law 709 = .ok (.iaload, 1) := by decide +kernel
theorem dL_law_710 : decode cL_law 710 = .ok (.invokevirtual 83, 3) := by decide +kernel
theorem dL_law_713 : decode cL_law 713 = .ok (.if_icmp .eq 797, 3) := by decide +kernel
theorem dL_law_716 : decode cL_law 716 = .ok (.iconst 0, 1) := by decide +kernel
theorem dL_law_717 : decode cL_law 717 = .ok (.ireturn, 1) := by decide +kernel
theorem dL_law_718 : decode cL_law 718 = .ok (.aload_n 1, 1) := by decide +kernel
theorem dL_law_719 : decode cL_law 719 = .ok (.aload_n 0, 1) := by decide +kernel
theorem dL_law_720 : decode cL_law 720 = .ok (.iload_n 3, 1) := by decide +kernel
theorem dL_law_721 : decode cL_law 721 = .ok (.iconst 1, 1) := by decide +kernel
theorem dL_law_722 : decode cL_law 722 = .ok (.iadd, 1) := by decide +kernel
theorem dL_law_723 : decode cL_law 723 = .ok (.iaload, 1) := by decide +kernel
theorem dL_law_724 : decode cL_law 724 = .ok (.invokevirtual 84, 3) := by decide +kernel
theorem dL_law_727 : decode cL_law 727 = .ok (.aload_n 2, 1) := by decide +kernel
theorem dL_law_728 : decode cL_law 728 = .ok (.aload_n 0, 1) := by decide +kernel
theorem dL_law_729 : decode cL_law 729 = .ok (.iload_n 3, 1) := by decide +kernel
theorem dL_law_730 : decode cL_law 730 = .ok (.iconst 1, 1) := by decide +kernel
theorem dL_law_731 : decode cL_law 731 = .ok (.iadd, 1) := by decide +kernel
theorem dL_law_732 : decode cL_law 732 = .ok (.iaload, 1) := by decide +kernel
theorem dL_law_733 : decode cL_law 733 = .ok (.invokevirtual 88, 3) := by decide +kernel
theorem dL_law_736 : decode cL_law 736 = .ok (.lcmp, 1) := by decide +kernel
theorem dL_law_737 : decode cL_law 737 = .ok (.ifCond .eq 773, 3) := by decide +kernel
theorem dL_law_740 : decode cL_law 740 = .ok (.iconst 0, 1) := by decide +kernel
theorem dL_law_741 : decode cL_law 741 = .ok (.ireturn, 1) := by decide +kernel
theorem dL_law_742 : decode cL_law 742 = .ok (.aload_n 1, 1) := by decide +kernel
theorem dL_law_743 : decode cL_law 743 = .ok (.aload_n 0, 1) := by decide +kernel
theorem dL_law_744 : decode cL_law 744 = .ok (.iload_n 3, 1) := by decide +kernel
theorem dL_law_745 : decode cL_law 745 = .ok (.iconst 1, 1) := by decide +kernel
theorem dL_law_746 : decode cL_law 746 = .ok (.iadd, 1) := by decide +kernel
theorem dL_law_747 : decode cL_law 747 = .ok (.iaload, 1) := by decide +kernel
theorem dL_law_748 : decode cL_law 748 = .ok (.aload_n 0, 1) := by decide +kernel
theorem dL_law_749 : decode cL_law 749 = .ok (.iload_n 3, 1) := by decide +kernel
theorem dL_law_750 : decode cL_law 750 = .ok (.iconst 2, 1) := by decide +kernel
theorem dL_law_751 : decode cL_law 751 = .ok (.iadd, 1) := by decide +kernel
theorem dL_law_752 : decode cL_law 752 = .ok (.iaload, 1) := by decide +kernel
theorem dL_law_753 : decode cL_law 753 = .ok (.invokevirtual 89, 3) := by decide +kernel
theorem dL_law_756 : decode cL_law 756 = .ok (.aload_n 2, 1) := by decide +kernel
theorem dL_law_757 : decode cL_law 757 = .ok (.aload_n 0, 1) := by decide +kernel
theorem dL_law_758 : decode cL_law 758 = .ok (.iload_n 3, 1) := by decide +kernel
theorem dL_law_759 : decode cL_law 759 = .ok (.iconst 1, 1) := by decide +kernel
theorem dL_law_760 : decode cL_law 760 = .ok (.iadd, 1) := by decide +kernel
theorem dL_law_761 : decode cL_law 761 = .ok (.iaload, 1) := by decide +kernel
theorem dL_law_762 : decode cL_law 762 = .ok (.aload_n 0, 1) := by decide +kernel
theorem dL_law_763 : decode cL_law 763 = .ok (.iload_n 3, 1) := by decide +kernel
theorem dL_law_764 : decode cL_law 764 = .ok (.iconst 2, 1) := by decide +kernel
theorem dL_law_765 : decode cL_law 765 = .ok (.iadd, 1) := by decide +kernel
theorem dL_law_766 : decode cL_law 766 = .ok (.iaload, 1) := by decide +kernel
theorem dL_law_767 : decode cL_law 767 = .ok (.invokevirtual 92, 3) := by decide +kernel
theorem dL_law_770 : decode cL_law 770 = .ok (.if_icmp .eq 740, 3) := by decide +kernel
theorem dL_law_773 : decode cL_law 773 = .ok (.iconst 0, 1) := by decide +kernel
theorem dL_law_774 : decode cL_law 774 = .ok (.ireturn, 1) := by decide +kernel
theorem dL_law_775 : decode cL_law 775 = .ok (.aload_n 1, 1) := by decide +kernel
theorem dL_law_776 : decode cL_law 776 = .ok (.aload_n 0, 1) := by decide +kernel
theorem dL_law_777 : decode cL_law 777 = .ok (.iload_n 3, 1) := by decide +kernel
theorem dL_law_778 : decode cL_law 778 = .ok (.iconst 1, 1) := by decide +kernel
theorem dL_law_779 : decode cL_law 779 = .ok (.iadd, 1) := by decide +kernel
theorem dL_law_780 : decode cL_law 780 = .ok (.iaload, 1) := by decide +kernel
theorem dL_law_781 : decode cL_law 781 = .ok (.invokevirtual 93, 3) := by decide +kernel
theorem dL_law_784 : decode cL_law 784 = .ok (.aload_n 2, 1) := by decide +kernel
theorem dL_law_785 : decode cL_law 785 = .ok (.aload_n 0, 1) := by decide +kernel
theorem dL_law_786 : decode cL_law 786 = .ok (.iload_n 3, 1) := by decide +kernel
theorem dL_law_787 : decode cL_law 787 = .ok (.iconst 1, 1) := by decide +kernel
theorem dL_law_788 : decode cL_law 788 = .ok (.iadd, 1) := by decide +kernel
theorem dL_law_789 : decode cL_law 789 = .ok (.iaload, 1) := by decide +kernel
theorem dL_law_790 : decode cL_law 790 = .ok (.invokevirtual 96, 3) := by decide +kernel
theorem dL_law_793 : decode cL_law 793 = .ok (.lcmp, 1) := by decide +kernel
theorem dL_law_794 : decode cL_law 794 = .ok (.ifCond .eq 716, 3) := by decide +kernel
theorem dL_law_797 : decode cL_law 797 = .ok (.iconst 0, 1) := by decide +kernel
theorem dL_law_798 : decode cL_law 798 = .ok (.ireturn, 1) := by decide +kernel
theorem dL_law_799 : decode cL_law 799 = .ok (.aload_n 1, 1) := by decide +kernel
theorem dL_law_800 : decode cL_law 800 = .ok (.aload_n 0, 1) := by decide +kernel
theorem dL_law_801 : decode cL_law 801 = .ok (.iload_n 3, 1) := by decide +kernel
theorem dL_law_802 : decode cL_law 802 = .ok (.iconst 1, 1) := by decide +kernel
theorem dL_law_803 : decode cL_law 803 = .ok (.iadd, 1) := by decide +kernel
theorem dL_law_804 : decode cL_law 804 = .ok (.iaload, 1) := by decide +kernel
theorem dL_law_805 : decode cL_law 805 = .ok (.invokevirtual 97, 3) := by decide +kernel
theorem dL_law_808 : decode cL_law 808 = .ok (.aload_n 2, 1) := by decide +kernel
theorem dL_law_809 : decode cL_law 809 = .ok (.aload_n 0, 1) := by decide +kernel
theorem dL_law_810 : decode cL_law 810 = .ok (.iload_n 3, 1) := by decide +kernel
theorem dL_law_811 : decode cL_law 811 = .ok (.iconst 1, 1) := by decide +kernel
theorem dL_law_812 : decode cL_law 812 = .ok (.iadd, 1) := by decide +kernel
theorem dL_law_813 : decode cL_law 813 = .ok (.iaload, 1) := by decide +kernel
theorem dL_law_814 : decode cL_law 814 = .ok (.invokevirtual 100, 3) := by decide +kernel
theorem dL_law_817 : decode cL_law 817 = .ok (.if_icmp .eq 693, 3) := by decide +kernel
theorem dL_law_820 : decode cL_law 820 = .ok (.iconst 0, 1) := by decide +kernel
theorem dL_law_821 : decode cL_law 821 = .ok (.ireturn, 1) := by decide +kernel
theorem dL_law_822 : decode cL_law 822 = .ok (.aload_n 1, 1) := by decide +kernel
theorem dL_law_823 : decode cL_law 823 = .ok (.invokevirtual 101, 3) := by decide +kernel
theorem dL_law_826 : decode cL_law 826 = .ok (.aload_n 2, 1) := by decide +kernel
theorem dL_law_827 : decode cL_law 827 = .ok (.invokevirtual 105, 3) := by decide +kernel
theorem dL_law_830 : decode cL_law 830 = .ok (.lcmp, 1) := by decide +kernel
theorem dL_law_831 : decode cL_law 831 = .ok (.ifCond .eq 679, 3) := by decide +kernel
theorem dL_law_834 : decode cL_law 834 = .ok (.iconst 0, 1) := by decide +kernel
theorem dL_law_835 : decode cL_law 835 = .ok (.ireturn, 1) := by decide +kernel
theorem dL_law_836 : decode cL_law 836 = .ok (.aload_n 1, 1) := by decide +kernel
theorem dL_law_837 : decode cL_law 837 = .ok (.aload_n 0, 1) := by decide +kernel
theorem dL_law_838 : decode cL_law 838 = .ok (.iload_n 3, 1) := by decide +kernel
theorem dL_law_839 : decode cL_law 839 = .ok (.iconst 1, 1) := by decide +kernel
theorem dL_law_840 : decode cL_law 840 = .ok (.iadd, 1) := by decide +kernel
theorem dL_law_841 : decode cL_law 841 = .ok (.iaload, 1) := by decide +kernel
theorem dL_law_842 : decode cL_law 842 = .ok (.invokevirtual 106, 3) := by decide +kernel
theorem dL_law_845 : decode cL_law 845 = .ok (.aload_n 2, 1) := by decide +kernel
theorem dL_law_846 : decode cL_law 846 = .ok (.aload_n 0, 1) := by decide +kernel
theorem dL_law_847 : decode cL_law 847 = .ok (.iload_n 3, 1) := by decide +kernel
theorem dL_law_848 : decode cL_law 848 = .ok (.iconst 1, 1) := by decide +kernel
theorem dL_law_849 : decode cL_law 849 = .ok (.iadd, 1) := by decide +kernel
theorem dL_law_850 : decode cL_law 850 = .ok (.iaload, 1) := by decide +kernel
theorem dL_law_851 : decode cL_law 851 = .ok (.invokevirtual 109, 3) := by decide +kernel
theorem dL_law_854 : decode cL_law 854 = .ok (.lcmp, 1) := by decide +kernel
theorem dL_law_855 : decode cL_law 855 = .ok (.ifCond .eq 655, 3) := by decide +kernel
theorem dL_law_858 : decode cL_law 858 = .ok (.iconst 0, 1) := by decide +kernel
theorem dL_law_859 : decode cL_law 859 = .ok (.ireturn, 1) := by decide +kernel
theorem dL_law_860 : decode cL_law 860 = .ok (.aload_n 1, 1) := by decide +kernel
theorem dL_law_861 : decode cL_law 861 = .ok (.aload_n 0, 1) := by decide +kernel
theorem dL_law_862 : decode cL_law 862 = .ok (.iload_n 3, 1) := by decide +kernel
theorem dL_law_863 : decode cL_law 863 = .ok (.iconst 1, 1) := by decide +kernel
theorem dL_law_864 : decode cL_law 864 = .ok (.iadd, 1) := by decide +kernel
theorem dL_law_865 : decode cL_law 865 = .ok (.iaload, 1) := by decide +kernel
theorem dL_law_866 : decode cL_law 866 = .ok (.invokevirtual 110, 3) := by decide +kernel
theorem dL_law_869 : decode cL_law 869 = .ok (.aload_n 2, 1) := by decide +kernel
theorem dL_law_870 : decode cL_law 870 = .ok (.aload_n 0, 1) := by decide +kernel
theorem dL_law_871 : decode cL_law 871 = .ok (.iload_n 3, 1) := by decide +kernel
theorem dL_law_872 : decode cL_law 872 = .ok (.iconst 1, 1) := by decide +kernel
theorem dL_law_873 : decode cL_law 873 = .ok (.iadd, 1) := by decide +kernel
theorem dL_law_874 : decode cL_law 874 = .ok (.iaload, 1) := by decide +kernel
theorem dL_law_875 : decode cL_law 875 = .ok (.invokevirtual 113, 3) := by decide +kernel
theorem dL_law_878 : decode cL_law 878 = .ok (.if_icmp .eq 632, 3) := by decide +kernel
theorem dL_law_881 : decode cL_law 881 = .ok (.iconst 0, 1) := by decide +kernel
theorem dL_law_882 : decode cL_law 882 = .ok (.ireturn, 1) := by decide +kernel
theorem dL_law_883 : decode cL_law 883 = .ok (.aload_n 1, 1) := by decide +kernel
theorem dL_law_884 : decode cL_law 884 = .ok (.invokevirtual 114, 3) := by decide +kernel
theorem dL_law_887 : decode cL_law 887 = .ok (.aload_n 2, 1) := by decide +kernel
theorem dL_law_888 : decode cL_law 888 = .ok (.invokevirtual 117, 3) := by decide +kernel
theorem dL_law_891 : decode cL_law 891 = .ok (.if_icmp .eq 619, 3) := by decide +kernel
theorem dL_law_894 : decode cL_law 894 = .ok (.iconst 0, 1) := by decide +kernel
theorem dL_law_895 : decode cL_law 895 = .ok (.ireturn, 1) := by decide +kernel
theorem dL_law_896 : decode cL_law 896 = .ok (.aload_n 1, 1) := by decide +kernel
theorem dL_law_897 : decode cL_law 897 = .ok (.aload_n 0, 1) := by decide +kernel
theorem dL_law_898 : decode cL_law 898 = .ok (.iload_n 3, 1) := by decide +kernel
theorem dL_law_899 : decode cL_law 899 = .ok (.iconst 1, 1) := by decide +kernel
theorem dL_law_900 : decode cL_law 900 = .ok (.iadd, 1) := by decide +kernel
theorem dL_law_901 : decode cL_law 901 = .ok (.iaload, 1) := by decide +kernel
theorem dL_law_902 : decode cL_law 902 = .ok (.invokevirtual 118, 3) := by decide +kernel
theorem dL_law_905 : decode cL_law 905 = .ok (.aload_n 2, 1) := by decide +kernel
theorem dL_law_906 : decode cL_law 906 = .ok (.aload_n 0, 1) := by decide +kernel
theorem dL_law_907 : decode cL_law 907 = .ok (.iload_n 3, 1) := by decide +kernel
theorem dL_law_908 : decode cL_law 908 = .ok (.iconst 1, 1) := by decide +kernel
theorem dL_law_909 : decode cL_law 909 = .ok (.iadd, 1) := by decide +kernel
theorem dL_law_910 : decode cL_law 910 = .ok (.iaload, 1) := by decide +kernel
theorem dL_law_911 : decode cL_law 911 = .ok (.invokevirtual 121, 3) := by decide +kernel
theorem dL_law_914 : decode cL_law 914 = .ok (.if_icmp .eq 596, 3) := by decide +kernel
theorem dL_law_917 : decode cL_law 917 = .ok (.iconst 0, 1) := by decide +kernel
theorem dL_law_918 : decode cL_law 918 = .ok (.ireturn, 1) := by decide +kernel
theorem dL_law_919 : decode cL_law 919 = .ok (.aload_n 1, 1) := by decide +kernel
theorem dL_law_920 : decode cL_law 920 = .ok (.aload_n 0, 1) := by decide +kernel
theorem dL_law_921 : decode cL_law 921 = .ok (.iload_n 3, 1) := by decide +kernel
theorem dL_law_922 : decode cL_law 922 = .ok (.iconst 1, 1) := by decide +kernel
theorem dL_law_923 : decode cL_law 923 = .ok (.iadd, 1) := by decide +kernel
theorem dL_law_924 : decode cL_law 924 = .ok (.iaload, 1) := by decide +kernel
theorem dL_law_925 : decode cL_law 925 = .ok (.invokevirtual 122, 3) := by decide +kernel
theorem dL_law_928 : decode cL_law 928 = .ok (.aload_n 2, 1) := by decide +kernel
theorem dL_law_929 : decode cL_law 929 = .ok (.aload_n 0, 1) := by decide +kernel
theorem dL_law_930 : decode cL_law 930 = .ok (.iload_n 3, 1) := by decide +kernel
theorem dL_law_931 : decode cL_law 931 = .ok (.iconst 1, 1) := by decide +kernel
theorem dL_law_932 : decode cL_law 932 = .ok (.iadd, 1) := by decide +kernel
theorem dL_law_933 : decode cL_law 933 = .ok (.iaload, 1) := by decide +kernel
theorem dL_law_934 : decode cL_law 934 = .ok (.invokevirtual 125, 3) := by decide +kernel
theorem dL_law_937 : decode cL_law 937 = .ok (.if_icmp .eq 573, 3) := by decide +kernel
theorem dL_law_940 : decode cL_law 940 = .ok (.iconst 0, 1) := by decide +kernel
theorem dL_law_941 : decode cL_law 941 = .ok (.ireturn, 1) := by decide +kernel
theorem dL_law_942 : decode cL_law 942 = .ok (.aload_n 1, 1) := by decide +kernel
theorem dL_law_943 : decode cL_law 943 = .ok (.aload_n 0, 1) := by decide +kernel
theorem dL_law_944 : decode cL_law 944 = .ok (.iload_n 3, 1) := by decide +kernel
theorem dL_law_945 : decode cL_law 945 = .ok (.iconst 1, 1) := by decide +kernel
theorem dL_law_946 : decode cL_law 946 = .ok (.iadd, 1) := by decide +kernel
theorem dL_law_947 : decode cL_law 947 = .ok (.iaload, 1) := by decide +kernel
theorem dL_law_948 : decode cL_law 948 = .ok (.invokevirtual 126, 3) := by decide +kernel
theorem dL_law_951 : decode cL_law 951 = .ok (.aload_n 2, 1) := by decide +kernel
theorem dL_law_952 : decode cL_law 952 = .ok (.aload_n 0, 1) := by decide +kernel
theorem dL_law_953 : decode cL_law 953 = .ok (.iload_n 3, 1) := by decide +kernel
theorem dL_law_954 : decode cL_law 954 = .ok (.iconst 1, 1) := by decide +kernel
theorem dL_law_955 : decode cL_law 955 = .ok (.iadd, 1) := by decide +kernel
theorem dL_law_956 : decode cL_law 956 = .ok (.iaload, 1) := by decide +kernel
theorem dL_law_957 : decode cL_law 957 = .ok (.invokevirtual 129, 3) := by decide +kernel
theorem dL_law_960 : decode cL_law 960 = .ok (.if_icmp .eq 550, 3) := by decide +kernel
theorem dL_law_963 : decode cL_law 963 = .ok (.iconst 0, 1) := by decide +kernel
theorem dL_law_964 : decode cL_law 964 = .ok (.ireturn, 1) := by decide +kernel
theorem dL_law_965 : decode cL_law 965 = .ok (.aload_n 1, 1) := by decide +kernel
theorem dL_law_966 : decode cL_law 966 = .ok (.invokevirtual 130, 3) := by decide +kernel
theorem dL_law_969 : decode cL_law 969 = .ok (.aload_n 2, 1) := by decide +kernel
theorem dL_law_970 : decode cL_law 970 = .ok (.invokevirtual 133, 3) := by decide +kernel
theorem dL_law_973 : decode cL_law 973 = .ok (.if_icmp .eq 537, 3) := by decide +kernel
theorem dL_law_976 : decode cL_law 976 = .ok (.iconst 0, 1) := by decide +kernel
theorem dL_law_977 : decode cL_law 977 = .ok (.ireturn, 1) := by decide +kernel
theorem dL_law_978 : decode cL_law 978 = .ok (.aload_n 1, 1) := by decide +kernel
theorem dL_law_979 : decode cL_law 979 = .ok (.invokevirtual 134, 3) := by decide +kernel
theorem dL_law_982 : decode cL_law 982 = .ok (.aload_n 2, 1) := by decide +kernel
theorem dL_law_983 : decode cL_law 983 = .ok (.invokevirtual 137, 3) := by decide +kernel
theorem dL_law_986 : decode cL_law 986 = .ok (.if_icmp .eq 524, 3) := by decide +kernel
theorem dL_law_989 : decode cL_law 989 = .ok (.iconst 0, 1) := by decide +kernel
theorem dL_law_990 : decode cL_law 990 = .ok (.ireturn, 1) := by decide +kernel
theorem dL_law_991 : decode cL_law 991 = .ok (.aload_n 1, 1) := by decide +kernel
theorem dL_law_992 : decode cL_law 992 = .ok (.aload_n 0, 1) := by decide +kernel
theorem dL_law_993 : decode cL_law 993 = .ok (.iload_n 3, 1) := by decide +kernel
theorem dL_law_994 : decode cL_law 994 = .ok (.iconst 1, 1) := by decide +kernel
theorem dL_law_995 : decode cL_law 995 = .ok (.iadd, 1) := by decide +kernel
theorem dL_law_996 : decode cL_law 996 = .ok (.iaload, 1) := by decide +kernel
theorem dL_law_997 : decode cL_law 997 = .ok (.aload_n 0, 1) := by decide +kernel
theorem dL_law_998 : decode cL_law 998 = .ok (.iload_n 3, 1) := by decide +kernel
theorem dL_law_999 : decode cL_law 999 = .ok (.iconst 2, 1) := by decide +kernel
theorem dL_law_1000 : decode cL_law 1000 = .ok (.iadd, 1) := by decide +kernel
theorem dL_law_1001 : decode cL_law 1001 = .ok (.iaload, 1) := by decide +kernel
theorem dL_law_1002 : decode cL_law 1002 = .ok (.invokevirtual 138, 3) := by decide +kernel
theorem dL_law_1005 : decode cL_law 1005 = .ok (.aload_n 2, 1) := by decide +kernel
theorem dL_law_1006 : decode cL_law 1006 = .ok (.aload_n 0, 1) := by decide +kernel
theorem dL_law_1007 : decode cL_law 1007 = .ok (.iload_n 3, 1) := by decide +kernel
theorem dL_law_1008 : decode cL_law 1008 = .ok (.iconst 1, 1) := by decide +kernel
theorem dL_law_1009 : decode cL_law 1009 = .ok (.iadd, 1) := by decide +kernel
theorem dL_law_1010 : decode cL_law 1010 = .ok (.iaload, 1) := by decide +kernel
theorem dL_law_1011 : decode cL_law 1011 = .ok (.aload_n 0, 1) := by decide +kernel
theorem dL_law_1012 : decode cL_law 1012 = .ok (.iload_n 3, 1) := by decide +kernel
theorem dL_law_1013 : decode cL_law 1013 = .ok (.iconst 2, 1) := by decide +kernel
theorem dL_law_1014 : decode cL_law 1014 = .ok (.iadd, 1) := by decide +kernel
theorem dL_law_1015 : decode cL_law 1015 = .ok (.iaload, 1) := by decide +kernel
theorem dL_law_1016 : decode cL_law 1016 = .ok (.invokevirtual 141, 3) := by decide +kernel
theorem dL_law_1019 : decode cL_law 1019 = .ok (.if_icmp .eq 491, 3) := by decide +kernel
theorem dL_law_1022 : decode cL_law 1022 = .ok (.iconst 0, 1) := by decide +kernel
theorem dL_law_1023 : decode cL_law 1023 = .ok (.ireturn, 1) := by decide +kernel
theorem dL_law_1024 : decode cL_law 1024 = .ok (.aload_n 1, 1) := by decide +kernel
theorem dL_law_1025 : decode cL_law 1025 = .ok (.aload_n 0, 1) := by decide +kernel
theorem dL_law_1026 : decode cL_law 1026 = .ok (.iload_n 3, 1) := by decide +kernel
theorem dL_law_1027 : decode cL_law 1027 = .ok (.iconst 1, 1) := by decide +kernel
theorem dL_law_1028 : decode cL_law 1028 = .ok (.iadd, 1) := by decide +kernel
theorem dL_law_1029 : decode cL_law 1029 = .ok (.iaload, 1) := by decide +kernel
theorem dL_law_1030 : decode cL_law 1030 = .ok (.aload_n 0, 1) := by decide +kernel
theorem dL_law_1031 : decode cL_law 1031 = .ok (.iload_n 3, 1) := by decide +kernel
theorem dL_law_1032 : decode cL_law 1032 = .ok (.iconst 2, 1) := by decide +kernel
theorem dL_law_1033 : decode cL_law 1033 = .ok (.iadd, 1) := by decide +kernel
theorem dL_law_1034 : decode cL_law 1034 = .ok (.iaload, 1) := by decide +kernel
theorem dL_law_1035 : decode cL_law 1035 = .ok (.invokevirtual 142, 3) := by decide +kernel
theorem dL_law_1038 : decode cL_law 1038 = .ok (.aload_n 2, 1) := by decide +kernel
theorem dL_law_1039 : decode cL_law 1039 = .ok (.aload_n 0, 1) := by decide +kernel
theorem dL_law_1040 : decode cL_law 1040 = .ok (.iload_n 3, 1) := by decide +kernel
theorem dL_law_1041 : decode cL_law 1041 = .ok (.iconst 1, 1) := by decide +kernel
theorem dL_law_1042 : decode cL_law 1042 = .ok (.iadd, 1) := by decide +kernel
theorem dL_law_1043 : decode cL_law 1043 = .ok (.iaload, 1) := by decide +kernel
theorem dL_law_1044 : decode cL_law 1044 = .ok (.aload_n 0, 1) := by decide +kernel
theorem dL_law_1045 : decode cL_law 1045 = .ok (.iload_n 3, 1) := by decide +kernel
theorem dL_law_1046 : decode cL_law 1046 = .ok (.iconst 2, 1) := by decide +kernel
theorem dL_law_1047 : decode cL_law 1047 = .ok (.iadd, 1) := by decide +kernel
theorem dL_law_1048 : decode cL_law 1048 = .ok (.iaload, 1) := by decide +kernel
theorem dL_law_1049 : decode cL_law 1049 = .ok (.invokevirtual 145, 3) := by decide +kernel
theorem dL_law_1052 : decode cL_law 1052 = .ok (.if_icmp .eq 458, 3) := by decide +kernel
theorem dL_law_1055 : decode cL_law 1055 = .ok (.iconst 0, 1) := by decide +kernel
theorem dL_law_1056 : decode cL_law 1056 = .ok (.ireturn, 1) := by decide +kernel
theorem dL_law_1057 : decode cL_law 1057 = .ok (.aload_n 1, 1) := by decide +kernel
theorem dL_law_1058 : decode cL_law 1058 = .ok (.aload_n 0, 1) := by decide +kernel
theorem dL_law_1059 : decode cL_law 1059 = .ok (.iload_n 3, 1) := by decide +kernel
theorem dL_law_1060 : decode cL_law 1060 = .ok (.iconst 1, 1) := by decide +kernel
theorem dL_law_1061 : decode cL_law 1061 = .ok (.iadd, 1) := by decide +kernel
theorem dL_law_1062 : decode cL_law 1062 = .ok (.iaload, 1) := by decide +kernel
theorem dL_law_1063 : decode cL_law 1063 = .ok (.invokevirtual 146, 3) := by decide +kernel
theorem dL_law_1066 : decode cL_law 1066 = .ok (.aload_n 2, 1) := by decide +kernel
theorem dL_law_1067 : decode cL_law 1067 = .ok (.aload_n 0, 1) := by decide +kernel
theorem dL_law_1068 : decode cL_law 1068 = .ok (.iload_n 3, 1) := by decide +kernel
theorem dL_law_1069 : decode cL_law 1069 = .ok (.iconst 1, 1) := by decide +kernel
theorem dL_law_1070 : decode cL_law 1070 = .ok (.iadd, 1) := by decide +kernel
theorem dL_law_1071 : decode cL_law 1071 = .ok (.iaload, 1) := by decide +kernel
theorem dL_law_1072 : decode cL_law 1072 = .ok (.invokevirtual 149, 3) := by decide +kernel
theorem dL_law_1075 : decode cL_law 1075 = .ok (.if_icmp .eq 435, 3) := by decide +kernel
theorem dL_law_1078 : decode cL_law 1078 = .ok (.iconst 0, 1) := by decide +kernel
theorem dL_law_1079 : decode cL_law 1079 = .ok (.ireturn, 1) := by decide +kernel
theorem dL_law_1080 : decode cL_law 1080 = .ok (.aload_n 1, 1) := by decide +kernel
theorem dL_law_1081 : decode cL_law 1081 = .ok (.aload_n 0, 1) := by decide +kernel
theorem dL_law_1082 : decode cL_law 1082 = .ok (.iload_n 3, 1) := by decide +kernel
theorem dL_law_1083 : decode cL_law 1083 = .ok (.iconst 1, 1) := by decide +kernel
theorem dL_law_1084 : decode cL_law 1084 = .ok (.iadd, 1) := by decide +kernel
theorem dL_law_1085 : decode cL_law 1085 = .ok (.iaload, 1) := by decide +kernel
theorem dL_law_1086 : decode cL_law 1086 = .ok (.aload_n 0, 1) := by decide +kernel
theorem dL_law_1087 : decode cL_law 1087 = .ok (.iload_n 3, 1) := by decide +kernel
theorem dL_law_1088 : decode cL_law 1088 = .ok (.iconst 2, 1) := by decide +kernel
theorem dL_law_1089 : decode cL_law 1089 = .ok (.iadd, 1) := by decide +kernel
theorem dL_law_1090 : decode cL_law 1090 = .ok (.iaload, 1) := by decide +kernel
theorem dL_law_1091 : decode cL_law 1091 = .ok (.aload_n 0, 1) := by decide +kernel
theorem dL_law_1092 : decode cL_law 1092 = .ok (.iload_n 3, 1) := by decide +kernel
theorem dL_law_1093 : decode cL_law 1093 = .ok (.iconst 3, 1) := by decide +kernel
theorem dL_law_1094 : decode cL_law 1094 = .ok (.iadd, 1) := by decide +kernel
theorem dL_law_1095 : decode cL_law 1095 = .ok (.iaload, 1) := by decide +kernel
theorem dL_law_1096 : decode cL_law 1096 = .ok (.invokevirtual 150, 3) := by decide +kernel
theorem dL_law_1099 : decode cL_law 1099 = .ok (.aload_n 2, 1) := by decide +kernel
theorem dL_law_1100 : decode cL_law 1100 = .ok (.aload_n 0, 1) := by decide +kernel
theorem dL_law_1101 : decode cL_law 1101 = .ok (.iload_n 3, 1) := by decide +kernel
theorem dL_law_1102 : decode cL_law 1102 = .ok (.iconst 1, 1) := by decide +kernel
theorem dL_law_1103 : decode cL_law 1103 = .ok (.iadd, 1) := by decide +kernel
theorem dL_law_1104 : decode cL_law 1104 = .ok (.iaload, 1) := by decide +kernel
theorem dL_law_1105 : decode cL_law 1105 = .ok (.aload_n 0, 1) := by decide +kernel
theorem dL_law_1106 : decode cL_law 1106 = .ok (.iload_n 3, 1) := by decide +kernel
theorem dL_law_1107 : decode cL_law 1107 = .ok (.iconst 2, 1) := by decide +kernel
theorem dL_law_1108 : decode cL_law 1108 = .ok (.iadd, 1) := by decide +kernel
theorem dL_law_1109 : decode cL_law 1109 = .ok (.iaload, 1) := by decide +kernel
theorem dL_law_1110 : decode cL_law 1110 = .ok (.aload_n 0, 1) := by decide +kernel
theorem dL_law_1111 : decode cL_law 1111 = .ok (.iload_n 3, 1) := by decide +kernel
theorem dL_law_1112 : decode cL_law 1112 = .ok (.iconst 3, 1) := by decide +kernel
theorem dL_law_1113 : decode cL_law 1113 = .ok (.iadd, 1) := by decide +kernel
theorem dL_law_1114 : decode cL_law 1114 = .ok (.iaload, 1) := by decide +kernel
theorem dL_law_1115 : decode cL_law 1115 = .ok (.invokevirtual 153, 3) := by decide +kernel
theorem dL_law_1118 : decode cL_law 1118 = .ok (.if_icmp .eq 392, 3) := by decide +kernel
theorem dL_law_1121 : decode cL_law 1121 = .ok (.iconst 0, 1) := by decide +kernel
theorem dL_law_1122 : decode cL_law 1122 = .ok (.ireturn, 1) := by decide +kernel
theorem dL_law_1123 : decode cL_law 1123 = .ok (.aload_n 1, 1) := by decide +kernel
theorem dL_law_1124 : decode cL_law 1124 = .ok (.aload_n 0, 1) := by decide +kernel
theorem dL_law_1125 : decode cL_law 1125 = .ok (.iload_n 3, 1) := by decide +kernel
theorem dL_law_1126 : decode cL_law 1126 = .ok (.iconst 1, 1) := by decide +kernel
theorem dL_law_1127 : decode cL_law 1127 = .ok (.iadd, 1) := by decide +kernel
theorem dL_law_1128 : decode cL_law 1128 = .ok (.iaload, 1) := by decide +kernel
theorem dL_law_1129 : decode cL_law 1129 = .ok (.aload_n 0, 1) := by decide +kernel
theorem dL_law_1130 : decode cL_law 1130 = .ok (.iload_n 3, 1) := by decide +kernel
theorem dL_law_1131 : decode cL_law 1131 = .ok (.iconst 2, 1) := by decide +kernel
theorem dL_law_1132 : decode cL_law 1132 = .ok (.iadd, 1) := by decide +kernel
theorem dL_law_1133 : decode cL_law 1133 = .ok (.iaload, 1) := by decide +kernel
theorem dL_law_1134 : decode cL_law 1134 = .ok (.invokevirtual 154, 3) := by decide +kernel
theorem dL_law_1137 : decode cL_law 1137 = .ok (.aload_n 2, 1) := by decide +kernel
theorem dL_law_1138 : decode cL_law 1138 = .ok (.aload_n 0, 1) := by decide +kernel
theorem dL_law_1139 : decode cL_law 1139 = .ok (.iload_n 3, 1) := by decide +kernel
theorem dL_law_1140 : decode cL_law 1140 = .ok (.iconst 1, 1) := by decide +kernel
theorem dL_law_1141 : decode cL_law 1141 = .ok (.iadd, 1) := by decide +kernel
theorem dL_law_1142 : decode cL_law 1142 = .ok (.iaload, 1) := by decide +kernel
theorem dL_law_1143 : decode cL_law 1143 = .ok (.aload_n 0, 1) := by decide +kernel
theorem dL_law_1144 : decode cL_law 1144 = .ok (.iload_n 3, 1) := by decide +kernel
theorem dL_law_1145 : decode cL_law 1145 = .ok (.iconst 2, 1) := by decide +kernel
theorem dL_law_1146 : decode cL_law 1146 = .ok (.iadd, 1) := by decide +kernel
theorem dL_law_1147 : decode cL_law 1147 = .ok (.iaload, 1) := by decide +kernel
theorem dL_law_1148 : decode cL_law 1148 = .ok (.invokevirtual 157, 3) := by decide +kernel
theorem dL_law_1151 : decode cL_law 1151 = .ok (.if_icmp .eq 359, 3) := by decide +kernel
theorem dL_law_1154 : decode cL_law 1154 = .ok (.iconst 0, 1) := by decide +kernel
theorem dL_law_1155 : decode cL_law 1155 = .ok (.ireturn, 1) := by decide +kernel
theorem dL_law_1156 : decode cL_law 1156 = .ok (.aload_n 1, 1) := by decide +kernel
theorem dL_law_1157 : decode cL_law 1157 = .ok (.aload_n 0, 1) := by decide +kernel
theorem dL_law_1158 : decode cL_law 1158 = .ok (.iload_n 3, 1) := by decide +kernel
theorem dL_law_1159 : decode cL_law 1159 = .ok (.iconst 1, 1) := by decide +kernel
theorem dL_law_1160 : decode cL_law 1160 = .ok (.iadd, 1) := by decide +kernel
theorem dL_law_1161 : decode cL_law 1161 = .ok (.iaload, 1) := by decide +kernel
theorem dL_law_1162 : decode cL_law 1162 = .ok (.invokevirtual 158, 3) := by decide +kernel
theorem dL_law_1165 : decode cL_law 1165 = .ok (.aload_n 2, 1) := by decide +kernel
theorem dL_law_1166 : decode cL_law 1166 = .ok (.aload_n 0, 1) := by decide +kernel
theorem dL_law_1167 : decode cL_law 1167 = .ok (.iload_n 3, 1) := by decide +kernel
theorem dL_law_1168 : decode cL_law 1168 = .ok (.iconst 1, 1) := by decide +kernel
theorem dL_law_1169 : decode cL_law 1169 = .ok (.iadd, 1) := by decide +kernel
theorem dL_law_1170 : decode cL_law 1170 = .ok (.iaload, 1) := by decide +kernel
theorem dL_law_1171 : decode cL_law 1171 = .ok (.invokevirtual 161, 3) := by decide +kernel
theorem dL_law_1174 : decode cL_law 1174 = .ok (.if_icmp .eq 336, 3) := by decide +kernel
theorem dL_law_1177 : decode cL_law 1177 = .ok (.iconst 0, 1) := by decide +kernel
theorem dL_law_1178 : decode cL_law 1178 = .ok (.ireturn, 1) := by decide +kernel
theorem dL_law_1179 : decode cL_law 1179 = .ok (.aload_n 1, 1) := by decide +kernel
theorem dL_law_1180 : decode cL_law 1180 = .ok (.aload_n 0, 1) := by decide +kernel
theorem dL_law_1181 : decode cL_law 1181 = .ok (.iload_n 3, 1) := by decide +kernel
theorem dL_law_1182 : decode cL_law 1182 = .ok (.iconst 1, 1) := by decide +kernel
theorem dL_law_1183 : decode cL_law 1183 = .ok (.iadd, 1) := by decide +kernel
theorem dL_law_1184 : decode cL_law 1184 = .ok (.iaload, 1) := by decide +kernel
theorem dL_law_1185 : decode cL_law 1185 = .ok (.aload_n 0, 1) := by decide +kernel
theorem dL_law_1186 : decode cL_law 1186 = .ok (.iload_n 3, 1) := by decide +kernel
theorem dL_law_1187 : decode cL_law 1187 = .ok (.iconst 2, 1) := by decide +kernel
theorem dL_law_1188 : decode cL_law 1188 = .ok (.iadd, 1) := by decide +kernel
theorem dL_law_1189 : decode cL_law 1189 = .ok (.iaload, 1) := by decide +kernel
theorem dL_law_1190 : decode cL_law 1190 = .ok (.invokevirtual 162, 3) := by decide +kernel
theorem dL_law_1193 : decode cL_law 1193 = .ok (.aload_n 2, 1) := by decide +kernel
theorem dL_law_1194 : decode cL_law 1194 = .ok (.aload_n 0, 1) := by decide +kernel
theorem dL_law_1195 : decode cL_law 1195 = .ok (.iload_n 3, 1) := by decide +kernel
theorem dL_law_1196 : decode cL_law 1196 = .ok (.iconst 1, 1) := by decide +kernel
theorem dL_law_1197 : decode cL_law 1197 = .ok (.iadd, 1) := by decide +kernel
theorem dL_law_1198 : decode cL_law 1198 = .ok (.iaload, 1) := by decide +kernel
theorem dL_law_1199 : decode cL_law 1199 = .ok (.aload_n 0, 1) := by decide +kernel
theorem dL_law_1200 : decode cL_law 1200 = .ok (.iload_n 3, 1) := by decide +kernel
theorem dL_law_1201 : decode cL_law 1201 = .ok (.iconst 2, 1) := by decide +kernel
theorem dL_law_1202 : decode cL_law 1202 = .ok (.iadd, 1) := by decide +kernel
theorem dL_law_1203 : decode cL_law 1203 = .ok (.iaload, 1) := by decide +kernel
theorem dL_law_1204 : decode cL_law 1204 = .ok (.invokevirtual 165, 3) := by decide +kernel
theorem dL_law_1207 : decode cL_law 1207 = .ok (.if_icmp .eq 303, 3) := by decide +kernel
theorem dL_law_1210 : decode cL_law 1210 = .ok (.iconst 0, 1) := by decide +kernel
theorem dL_law_1211 : decode cL_law 1211 = .ok (.ireturn, 1) := by decide +kernel
theorem dL_law_1212 : decode cL_law 1212 = .ok (.aload_n 1, 1) := by decide +kernel
theorem dL_law_1213 : decode cL_law 1213 = .ok (.invokevirtual 166, 3) := by decide +kernel
theorem dL_law_1216 : decode cL_law 1216 = .ok (.aload_n 2, 1) := by decide +kernel
theorem dL_law_1217 : decode cL_law 1217 = .ok (.invokevirtual 169, 3) := by decide +kernel
theorem dL_law_1220 : decode cL_law 1220 = .ok (.if_icmp .eq 290, 3) := by decide +kernel
theorem dL_law_1223 : decode cL_law 1223 = .ok (.iconst 0, 1) := by decide +kernel
theorem dL_law_1224 : decode cL_law 1224 = .ok (.ireturn, 1) := by decide +kernel
theorem dL_law_1225 : decode cL_law 1225 = .ok (.aload_n 1, 1) := by decide +kernel
theorem dL_law_1226 : decode cL_law 1226 = .ok (.aload_n 0, 1) := by decide +kernel
theorem dL_law_1227 : decode cL_law 1227 = .ok (.iload_n 3, 1) := by decide +kernel
theorem dL_law_1228 : decode cL_law 1228 = .ok (.iconst 1, 1) := by decide +kernel
theorem dL_law_1229 : decode cL_law 1229 = .ok (.iadd, 1) := by decide +kernel
theorem dL_law_1230 : decode cL_law 1230 = .ok (.iaload, 1) := by decide +kernel
theorem dL_law_1231 : decode cL_law 1231 = .ok (.invokevirtual 170, 3) := by decide +kernel
theorem dL_law_1234 : decode cL_law 1234 = .ok (.aload_n 2, 1) := by decide +kernel
theorem dL_law_1235 : decode cL_law 1235 = .ok (.aload_n 0, 1) := by decide +kernel
theorem dL_law_1236 : decode cL_law 1236 = .ok (.iload_n 3, 1) := by decide +kernel
theorem dL_law_1237 : decode cL_law 1237 = .ok (.iconst 1, 1) := by decide +kernel
theorem dL_law_1238 : decode cL_law 1238 = .ok (.iadd, 1) := by decide +kernel
theorem dL_law_1239 : decode cL_law 1239 = .ok (.iaload, 1) := by decide +kernel
theorem dL_law_1240 : decode cL_law 1240 = .ok (.invokevirtual 173, 3) := by decide +kernel
theorem dL_law_1243 : decode cL_law 1243 = .ok (.lcmp, 1) := by decide +kernel
theorem dL_law_1244 : decode cL_law 1244 = .ok (.ifCond .eq 266, 3) := by decide +kernel
theorem dL_law_1247 : decode cL_law 1247 = .ok (.iconst 0, 1) := by decide +kernel
theorem dL_law_1248 : decode cL_law 1248 = .ok (.ireturn, 1) := by decide +kernel
theorem dL_law_1249 : decode cL_law 1249 = .ok (.aload_n 1, 1) := by decide +kernel
theorem dL_law_1250 : decode cL_law 1250 = .ok (.aload_n 0, 1) := by decide +kernel
theorem dL_law_1251 : decode cL_law 1251 = .ok (.iload_n 3, 1) := by decide +kernel
theorem dL_law_1252 : decode cL_law 1252 = .ok (.iconst 1, 1) := by decide +kernel
theorem dL_law_1253 : decode cL_law 1253 = .ok (.iadd, 1) := by decide +kernel
theorem dL_law_1254 : decode cL_law 1254 = .ok (.iaload, 1) := by decide +kernel
theorem dL_law_1255 : decode cL_law 1255 = .ok (.aload_n 0, 1) := by decide +kernel
theorem dL_law_1256 : decode cL_law 1256 = .ok (.iload_n 3, 1) := by decide +kernel
theorem dL_law_1257 : decode cL_law 1257 = .ok (.iconst 2, 1) := by decide +kernel
theorem dL_law_1258 : decode cL_law 1258 = .ok (.iadd, 1) := by decide +kernel
theorem dL_law_1259 : decode cL_law 1259 = .ok (.iaload, 1) := by decide +kernel
theorem dL_law_1260 : decode cL_law 1260 = .ok (.invokevirtual 174, 3) := by decide +kernel
theorem dL_law_1263 : decode cL_law 1263 = .ok (.aload_n 2, 1) := by decide +kernel
theorem dL_law_1264 : decode cL_law 1264 = .ok (.aload_n 0, 1) := by decide +kernel
theorem dL_law_1265 : decode cL_law 1265 = .ok (.iload_n 3, 1) := by decide +kernel
theorem dL_law_1266 : decode cL_law 1266 = .ok (.iconst 1, 1) := by decide +kernel
theorem dL_law_1267 : decode cL_law 1267 = .ok (.iadd, 1) := by decide +kernel
theorem dL_law_1268 : decode cL_law 1268 = .ok (.iaload, 1) := by decide +kernel
theorem dL_law_1269 : decode cL_law 1269 = .ok (.aload_n 0, 1) := by decide +kernel
theorem dL_law_1270 : decode cL_law 1270 = .ok (.iload_n 3, 1) := by decide +kernel
theorem dL_law_1271 : decode cL_law 1271 = .ok (.iconst 2, 1) := by decide +kernel
theorem dL_law_1272 : decode cL_law 1272 = .ok (.iadd, 1) := by decide +kernel
theorem dL_law_1273 : decode cL_law 1273 = .ok (.iaload, 1) := by decide +kernel
theorem dL_law_1274 : decode cL_law 1274 = .ok (.invokevirtual 177, 3) := by decide +kernel
theorem dL_law_1277 : decode cL_law 1277 = .ok (.if_icmp .eq 233, 3) := by decide +kernel
theorem dL_law_1280 : decode cL_law 1280 = .ok (.iconst 0, 1) := by decide +kernel
theorem dL_law_1281 : decode cL_law 1281 = .ok (.ireturn, 1) := by decide +kernel
theorem dL_law_1282 : decode cL_law 1282 = .ok (.aload_n 1, 1) := by decide +kernel
theorem dL_law_1283 : decode cL_law 1283 = .ok (.aload_n 0, 1) := by decide +kernel
theorem dL_law_1284 : decode cL_law 1284 = .ok (.iload_n 3, 1) := by decide +kernel
theorem dL_law_1285 : decode cL_law 1285 = .ok (.iconst 1, 1) := by decide +kernel
theorem dL_law_1286 : decode cL_law 1286 = .ok (.iadd, 1) := by decide +kernel
theorem dL_law_1287 : decode cL_law 1287 = .ok (.iaload, 1) := by decide +kernel
theorem dL_law_1288 : decode cL_law 1288 = .ok (.aload_n 0, 1) := by decide +kernel
theorem dL_law_1289 : decode cL_law 1289 = .ok (.iload_n 3, 1) := by decide +kernel
theorem dL_law_1290 : decode cL_law 1290 = .ok (.iconst 2, 1) := by decide +kernel
theorem dL_law_1291 : decode cL_law 1291 = .ok (.iadd, 1) := by decide +kernel
theorem dL_law_1292 : decode cL_law 1292 = .ok (.iaload, 1) := by decide +kernel
theorem dL_law_1293 : decode cL_law 1293 = .ok (.invokevirtual 178, 3) := by decide +kernel
theorem dL_law_1296 : decode cL_law 1296 = .ok (.aload_n 2, 1) := by decide +kernel
theorem dL_law_1297 : decode cL_law 1297 = .ok (.aload_n 0, 1) := by decide +kernel
theorem dL_law_1298 : decode cL_law 1298 = .ok (.iload_n 3, 1) := by decide +kernel
theorem dL_law_1299 : decode cL_law 1299 = .ok (.iconst 1, 1) := by decide +kernel
theorem dL_law_1300 : decode cL_law 1300 = .ok (.iadd, 1) := by decide +kernel
theorem dL_law_1301 : decode cL_law 1301 = .ok (.iaload, 1) := by decide +kernel
theorem dL_law_1302 : decode cL_law 1302 = .ok (.aload_n 0, 1) := by decide +kernel
theorem dL_law_1303 : decode cL_law 1303 = .ok (.iload_n 3, 1) := by decide +kernel
theorem dL_law_1304 : decode cL_law 1304 = .ok (.iconst 2, 1) := by decide +kernel
theorem dL_law_1305 : decode cL_law 1305 = .ok (.iadd, 1) := by decide +kernel
theorem dL_law_1306 : decode cL_law 1306 = .ok (.iaload, 1) := by decide +kernel
theorem dL_law_1307 : decode cL_law 1307 = .ok (.invokevirtual 181, 3) := by decide +kernel
theorem dL_law_1310 : decode cL_law 1310 = .ok (.if_icmp .eq 200, 3) := by decide +kernel
theorem dL_law_1313 : decode cL_law 1313 = .ok (.iconst 0, 1) := by decide +kernel
theorem dL_law_1314 : decode cL_law 1314 = .ok (.ireturn, 1) := by decide +kernel
theorem dL_law_1315 : decode cL_law 1315 = .ok (.aload_n 1, 1) := by decide +kernel
theorem dL_law_1316 : decode cL_law 1316 = .ok (.aload_n 0, 1) := by decide +kernel
theorem dL_law_1317 : decode cL_law 1317 = .ok (.iload_n 3, 1) := by decide +kernel
theorem dL_law_1318 : decode cL_law 1318 = .ok (.iconst 1, 1) := by decide +kernel
theorem dL_law_1319 : decode cL_law 1319 = .ok (.iadd, 1) := by decide +kernel
theorem dL_law_1320 : decode cL_law 1320 = .ok (.iaload, 1) := by decide +kernel
theorem dL_law_1321 : decode cL_law 1321 = .ok (.aload_n 0, 1) := by decide +kernel
theorem dL_law_1322 : decode cL_law 1322 = .ok (.iload_n 3, 1) := by decide +kernel
theorem dL_law_1323 : decode cL_law 1323 = .ok (.iconst 2, 1) := by decide +kernel
theorem dL_law_1324 : decode cL_law 1324 = .ok (.iadd, 1) := by decide +kernel
theorem dL_law_1325 : decode cL_law 1325 = .ok (.iaload, 1) := by decide +kernel
theorem dL_law_1326 : decode cL_law 1326 = .ok (.invokevirtual 182, 3) := by decide +kernel
theorem dL_law_1329 : decode cL_law 1329 = .ok (.aload_n 2, 1) := by decide +kernel
theorem dL_law_1330 : decode cL_law 1330 = .ok (.aload_n 0, 1) := by decide +kernel
theorem dL_law_1331 : decode cL_law 1331 = .ok (.iload_n 3, 1) := by decide +kernel
theorem dL_law_1332 : decode cL_law 1332 = .ok (.iconst 1, 1) := by decide +kernel
theorem dL_law_1333 : decode cL_law 1333 = .ok (.iadd, 1) := by decide +kernel
theorem dL_law_1334 : decode cL_law 1334 = .ok (.iaload, 1) := by decide +kernel
theorem dL_law_1335 : decode cL_law 1335 = .ok (.aload_n 0, 1) := by decide +kernel
theorem dL_law_1336 : decode cL_law 1336 = .ok (.iload_n 3, 1) := by decide +kernel
theorem dL_law_1337 : decode cL_law 1337 = .ok (.iconst 2, 1) := by decide +kernel
theorem dL_law_1338 : decode cL_law 1338 = .ok (.iadd, 1) := by decide +kernel
theorem dL_law_1339 : decode cL_law 1339 = .ok (.iaload, 1) := by decide +kernel
theorem dL_law_1340 : decode cL_law 1340 = .ok (.invokevirtual 185, 3) := by decide +kernel
theorem dL_law_1343 : decode cL_law 1343 = .ok (.if_icmp .eq 167, 3) := by decide +kernel
theorem dL_law_1346 : decode cL_law 1346 = .ok (.iconst 0, 1) := by decide +kernel
theorem dL_law_1347 : decode cL_law 1347 = .ok (.ireturn, 1) := by decide +kernel
theorem dL_law_1348 : decode cL_law 1348 = .ok (.aload_n 1, 1) := by decide +kernel
theorem dL_law_1349 : decode cL_law 1349 = .ok (.aload_n 0, 1) := by decide +kernel
theorem dL_law_1350 : decode cL_law 1350 = .ok (.iload_n 3, 1) := by decide +kernel
theorem dL_law_1351 : decode cL_law 1351 = .ok (.iconst 1, 1) := by decide +kernel
theorem dL_law_1352 : decode cL_law 1352 = .ok (.iadd, 1) := by decide +kernel
theorem dL_law_1353 : decode cL_law 1353 = .ok (.iaload, 1) := by decide +kernel
theorem dL_law_1354 : decode cL_law 1354 = .ok (.invokevirtual 186, 3) := by decide +kernel
theorem dL_law_1357 : decode cL_law 1357 = .ok (.aload_n 2, 1) := by decide +kernel
theorem dL_law_1358 : decode cL_law 1358 = .ok (.aload_n 0, 1) := by decide +kernel
theorem dL_law_1359 : decode cL_law 1359 = .ok (.iload_n 3, 1) := by decide +kernel
theorem dL_law_1360 : decode cL_law 1360 = .ok (.iconst 1, 1) := by decide +kernel
theorem dL_law_1361 : decode cL_law 1361 = .ok (.iadd, 1) := by decide +kernel
theorem dL_law_1362 : decode cL_law 1362 = .ok (.iaload, 1) := by decide +kernel
theorem dL_law_1363 : decode cL_law 1363 = .ok (.invokevirtual 189, 3) := by decide +kernel
theorem dL_law_1366 : decode cL_law 1366 = .ok (.if_icmp .eq 144, 3) := by decide +kernel
theorem dL_law_1369 : decode cL_law 1369 = .ok (.iconst 0, 1) := by decide +kernel
theorem dL_law_1370 : decode cL_law 1370 = .ok (.ireturn, 1) := by decide +kernel
theorem dL_law_1371 : decode cL_law 1371 = .ok (.aload_n 1, 1) := by decide +kernel
theorem dL_law_1372 : decode cL_law 1372 = .ok (.invokevirtual 190, 3) := by decide +kernel
theorem dL_law_1375 : decode cL_law 1375 = .ok (.aload_n 2, 1) := by decide +kernel
theorem dL_law_1376 : decode cL_law 1376 = .ok (.invokevirtual 193, 3) := by decide +kernel
theorem dL_law_1379 : decode cL_law 1379 = .ok (.if_icmp .eq 131, 3) := by decide +kernel
theorem dL_law_1382 : decode cL_law 1382 = .ok (.iconst 0, 1) := by decide +kernel
theorem dL_law_1383 : decode cL_law 1383 = .ok (.ireturn, 1) := by decide +kernel
theorem dL_law_1384 : decode cL_law 1384 = .ok (.aload_n 1, 1) := by decide +kernel
theorem dL_law_1385 : decode cL_law 1385 = .ok (.aload_n 0, 1) := by decide +kernel
theorem dL_law_1386 : decode cL_law 1386 = .ok (.iload_n 3, 1) := by decide +kernel
theorem dL_law_1387 : decode cL_law 1387 = .ok (.iconst 1, 1) := by decide +kernel
theorem dL_law_1388 : decode cL_law 1388 = .ok (.iadd, 1) := by decide +kernel
theorem dL_law_1389 : decode cL_law 1389 = .ok (.iaload, 1) := by decide +kernel
theorem dL_law_1390 : decode cL_law 1390 = .ok (.aload_n 0, 1) := by decide +kernel
theorem dL_law_1391 : decode cL_law 1391 = .ok (.iload_n 3, 1) := by decide +kernel
theorem dL_law_1392 : decode cL_law 1392 = .ok (.iconst 2, 1) := by decide +kernel
theorem dL_law_1393 : decode cL_law 1393 = .ok (.iadd, 1) := by decide +kernel
theorem dL_law_1394 : decode cL_law 1394 = .ok (.iaload, 1) := by decide +kernel
theorem dL_law_1395 : decode cL_law 1395 = .ok (.invokevirtual 194, 3) := by decide +kernel
theorem dL_law_1398 : decode cL_law 1398 = .ok (.aload_n 2, 1) := by decide +kernel
theorem dL_law_1399 : decode cL_law 1399 = .ok (.aload_n 0, 1) := by decide +kernel
theorem dL_law_1400 : decode cL_law 1400 = .ok (.iload_n 3, 1) := by decide +kernel
theorem dL_law_1401 : decode cL_law 1401 = .ok (.iconst 1, 1) := by decide +kernel
theorem dL_law_1402 : decode cL_law 1402 = .ok (.iadd, 1) := by decide +kernel
theorem dL_law_1403 : decode cL_law 1403 = .ok (.iaload, 1) := by decide +kernel
theorem dL_law_1404 : decode cL_law 1404 = .ok (.aload_n 0, 1) := by decide +kernel
theorem dL_law_1405 : decode cL_law 1405 = .ok (.iload_n 3, 1) := by decide +kernel
theorem dL_law_1406 : decode cL_law 1406 = .ok (.iconst 2, 1) := by decide +kernel
theorem dL_law_1407 : decode cL_law 1407 = .ok (.iadd, 1) := by decide +kernel
theorem dL_law_1408 : decode cL_law 1408 = .ok (.iaload, 1) := by decide +kernel
theorem dL_law_1409 : decode cL_law 1409 = .ok (.invokevirtual 197, 3) := by decide +kernel
theorem dL_law_1412 : decode cL_law 1412 = .ok (.if_icmp .eq 98, 3) := by decide +kernel
theorem dL_law_1415 : decode cL_law 1415 = .ok (.iconst 0, 1) := by decide +kernel
theorem dL_law_1416 : decode cL_law 1416 = .ok (.ireturn, 1) := by decide +kernel
theorem dL_law_1417 : decode cL_law 1417 = .ok (.aload_n 1, 1) := by decide +kernel
theorem dL_law_1418 : decode cL_law 1418 = .ok (.aload_n 0, 1) := by decide +kernel
theorem dL_law_1419 : decode cL_law 1419 = .ok (.iload_n 3, 1) := by decide +kernel
theorem dL_law_1420 : decode cL_law 1420 = .ok (.iconst 1, 1) := by decide +kernel
theorem dL_law_1421 : decode cL_law 1421 = .ok (.iadd, 1) := by decide +kernel
theorem dL_law_1422 : decode cL_law 1422 = .ok (.iaload, 1) := by decide +kernel
theorem dL_law_1423 : decode cL_law 1423 = .ok (.invokevirtual 198, 3) := by decide +kernel
theorem dL_law_1426 : decode cL_law 1426 = .ok (.aload_n 2, 1) := by decide +kernel
theorem dL_law_1427 : decode cL_law 1427 = .ok (.aload_n 0, 1) := by decide +kernel
theorem dL_law_1428 : decode cL_law 1428 = .ok (.iload_n 3, 1) := by decide +kernel
theorem dL_law_1429 : decode cL_law 1429 = .ok (.iconst 1, 1) := by decide +kernel
theorem dL_law_1430 : decode cL_law 1430 = .ok (.iadd, 1) := by decide +kernel
theorem dL_law_1431 : decode cL_law 1431 = .ok (.iaload, 1) := by decide +kernel
theorem dL_law_1432 : decode cL_law 1432 = .ok (.invokevirtual 201, 3) := by decide +kernel
theorem dL_law_1435 : decode cL_law 1435 = .ok (.if_icmp .eq 75, 3) := by decide +kernel
theorem dL_law_1438 : decode cL_law 1438 = .ok (.iconst 0, 1) := by decide +kernel
theorem dL_law_1439 : decode cL_law 1439 = .ok (.ireturn, 1) := by decide +kernel
theorem dL_law_1440 : decode cL_law 1440 = .ok (.aload_n 1, 1) := by decide +kernel
theorem dL_law_1441 : decode cL_law 1441 = .ok (.aload_n 0, 1) := by decide +kernel
theorem dL_law_1442 : decode cL_law 1442 = .ok (.iload_n 3, 1) := by decide +kernel
theorem dL_law_1443 : decode cL_law 1443 = .ok (.iconst 1, 1) := by decide +kernel
theorem dL_law_1444 : decode cL_law 1444 = .ok (.iadd, 1) := by decide +kernel
theorem dL_law_1445 : decode cL_law 1445 = .ok (.iaload, 1) := by decide +kernel
theorem dL_law_1446 : decode cL_law 1446 = .ok (.invokevirtual 202, 3) := by decide +kernel
theorem dL_law_1449 : decode cL_law 1449 = .ok (.aload_n 2, 1) := by decide +kernel
theorem dL_law_1450 : decode cL_law 1450 = .ok (.aload_n 0, 1) := by decide +kernel
theorem dL_law_1451 : decode cL_law 1451 = .ok (.iload_n 3, 1) := by decide +kernel
theorem dL_law_1452 : decode cL_law 1452 = .ok (.iconst 1, 1) := by decide +kernel
theorem dL_law_1453 : decode cL_law 1453 = .ok (.iadd, 1) := by decide +kernel
theorem dL_law_1454 : decode cL_law 1454 = .ok (.iaload, 1) := by decide +kernel
theorem dL_law_1455 : decode cL_law 1455 = .ok (.invokevirtual 205, 3) := by decide +kernel
theorem dL_law_1458 : decode cL_law 1458 = .ok (.lcmp, 1) := by decide +kernel
theorem dL_law_1459 : decode cL_law 1459 = .ok (.ifCond .eq 51, 3) := by decide +kernel
theorem dL_law_1462 : decode cL_law 1462 = .ok (.iconst 0, 1) := by decide +kernel
theorem dL_law_1463 : decode cL_law 1463 = .ok (.ireturn, 1) := by decide +kernel
theorem dL_law_1464 : decode cL_law 1464 = .ok (.aload_n 1, 1) := by decide +kernel
theorem dL_law_1465 : decode cL_law 1465 = .ok (.aload_n 0, 1) := by decide +kernel
theorem dL_law_1466 : decode cL_law 1466 = .ok (.iload_n 3, 1) := by decide +kernel
theorem dL_law_1467 : decode cL_law 1467 = .ok (.iconst 1, 1) := by decide +kernel
theorem dL_law_1468 : decode cL_law 1468 = .ok (.iadd, 1) := by decide +kernel
theorem dL_law_1469 : decode cL_law 1469 = .ok (.iaload, 1) := by decide +kernel
theorem dL_law_1470 : decode cL_law 1470 = .ok (.invokevirtual 206, 3) := by decide +kernel
theorem dL_law_1473 : decode cL_law 1473 = .ok (.aload_n 2, 1) := by decide +kernel
theorem dL_law_1474 : decode cL_law 1474 = .ok (.aload_n 0, 1) := by decide +kernel
theorem dL_law_1475 : decode cL_law 1475 = .ok (.iload_n 3, 1) := by decide +kernel
theorem dL_law_1476 : decode cL_law 1476 = .ok (.iconst 1, 1) := by decide +kernel
theorem dL_law_1477 : decode cL_law 1477 = .ok (.iadd, 1) := by decide +kernel
theorem dL_law_1478 : decode cL_law 1478 = .ok (.iaload, 1) := by decide +kernel
theorem dL_law_1479 : decode cL_law 1479 = .ok (.invokevirtual 209, 3) := by decide +kernel
theorem dL_law_1482 : decode cL_law 1482 = .ok (.if_icmp .eq 28, 3) := by decide +kernel
theorem dL_law_1485 : decode cL_law 1485 = .ok (.iconst 0, 1) := by decide +kernel
theorem dL_law_1486 : decode cL_law 1486 = .ok (.ireturn, 1) := by decide +kernel
theorem dL_law_1487 : decode cL_law 1487 = .ok (.aload_n 1, 1) := by decide +kernel
theorem dL_law_1488 : decode cL_law 1488 = .ok (.aload_n 0, 1) := by decide +kernel
theorem dL_law_1489 : decode cL_law 1489 = .ok (.iload_n 3, 1) := by decide +kernel
theorem dL_law_1490 : decode cL_law 1490 = .ok (.iconst 1, 1) := by decide +kernel
theorem dL_law_1491 : decode cL_law 1491 = .ok (.iadd, 1) := by decide +kernel
theorem dL_law_1492 : decode cL_law 1492 = .ok (.iaload, 1) := by decide +kernel
theorem dL_law_1493 : decode cL_law 1493 = .ok (.invokevirtual 210, 3) := by decide +kernel
theorem dL_law_1496 : decode cL_law 1496 = .ok (.aload_n 2, 1) := by decide +kernel
theorem dL_law_1497 : decode cL_law 1497 = .ok (.aload_n 0, 1) := by decide +kernel
theorem dL_law_1498 : decode cL_law 1498 = .ok (.iload_n 3, 1) := by decide +kernel
theorem dL_law_1499 : decode cL_law 1499 = .ok (.iconst 1, 1) := by decide +kernel
theorem dL_law_1500 : decode cL_law 1500 = .ok (.iadd, 1) := by decide +kernel
theorem dL_law_1501 : decode cL_law 1501 = .ok (.iaload, 1) := by decide +kernel
theorem dL_law_1502 : decode cL_law 1502 = .ok (.invokevirtual 213, 3) := by decide +kernel
theorem dL_law_1505 : decode cL_law 1505 = .ok (.if_icmp .eq 5, 3) := by decide +kernel
theorem dL_law_1508 : decode cL_law 1508 = .ok (.iconst 0, 1) := by decide +kernel
theorem dL_law_1509 : decode cL_law 1509 = .ok (.ireturn, 1) := by decide +kernel
theorem dL_law_1510 : decode cL_law 1510 = .ok (.iinc 3 6, 3) := by decide +kernel
theorem dL_law_1513 : decode cL_law 1513 = .ok (.goto (-1495), 3) := by decide +kernel
theorem dL_law_1516 : decode cL_law 1516 = .ok (.iconst 1, 1) := by decide +kernel
theorem dL_law_1517 : decode cL_law 1517 = .ok (.ireturn, 1) := by decide +kernel
