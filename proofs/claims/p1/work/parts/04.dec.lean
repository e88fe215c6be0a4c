theorem dL_law_0 : decode cL_law 0 = .ok (.new 7, 3) := by decide +kernel
theorem dL_law_3 : decode cL_law 3 = .ok (.dup, 1) := by decide +kernel
theorem dL_law_4 : decode cL_law 4 = .ok (.invokespecial 9, 3) := by decide +kernel
theorem dL_law_7 : decode cL_law 7 = .ok (.astore_n 1, 1) := by decide +kernel
theorem dL_law_8 : decode cL_law 8 = .ok (.new 10, 3) := by decide +kernel
theorem dL_law_11 : decode cL_law 11 = .ok (.dup, 1) := by decide +kernel
theorem dL_law_12 : decode cL_law 12 = .ok (.invokespecial 12, 3) := by decide +kernel
theorem dL_law_15 : decode cL_law 15 = .ok (.astore_n 2, 1) := by decide +kernel
theorem dL_law_16 : decode cL_law 16 = .ok (.iconst 0, 1) := by decide +kernel
theorem dL_law_17 : decode cL_law 17 = .ok (.istore_n 3, 1) := by decide +kernel
theorem dL_law_18 : decode cL_law 18 = .ok (.iload_n 3, 1) := by decide +kernel
theorem dL_law_19 : decode cL_law 19 = .ok (.aload_n 0, 1) := by decide +kernel
theorem dL_law_20 : decode cL_law 20 = .ok (.arraylength, 1) := by decide +kernel
theorem dL_law_21 : decode cL_law 21 = .ok (.bipush 6, 2) := by decide +kernel
theorem dL_law_23 : decode cL_law 23 = .ok (.isub, 1) := by decide +kernel
theorem dL_law_24 : decode cL_law 24 = .ok (.if_icmp .gt 1465, 3) := by decide +kernel
theorem dL_law_27 : decode cL_law 27 = .ok (.aload_n 0, 1) := by decide +kernel
theorem dL_law_28 : decode cL_law 28 = .ok (.iload_n 3, 1) := by decide +kernel
theorem dL_law_29 : decode cL_law 29 = .ok (.iaload, 1) := by decide +kernel
theorem dL_law_30 : decode cL_law 30 = .ok (.bipush 63, 2) := by decide +kernel
theorem dL_law_32 : decode cL_law 32 = .ok (.iand, 1) := by decide +kernel
theorem dL_law_33 : decode cL_law 33 = .ok (.tableswitch 1450 0 43 #[191, 204, 237, 290, 333, 392, 425, 468, 481, 514, 547, 580, 603, 636, 669, 682, 705, 748, 761, 784, 817, 830, 883, 916, 929, 942, 965, 978, 1011, 1024, 1057, 1070, 1103, 1116, 1129, 1172, 1246, 1309, 1342, 1365, 1378, 1391, 1404, 1427], 191) := by decide +kernel
theorem dL_law_224 : decode cL_law 224 = .ok (.aload_n 1, 1) := by decide +kernel
theorem dL_law_225 : decode cL_law 225 = .ok (.invokevirtual 13, 3) := by decide +kernel
theorem dL_law_228 : decode cL_law 228 = .ok (.aload_n 2, 1) := by decide +kernel
theorem dL_law_229 : decode cL_law 229 = .ok (.invokevirtual 17, 3) := by decide +kernel
theorem dL_law_232 : decode cL_law 232 = .ok (.if_icmp .eq 1251, 3) := by decide +kernel
theorem dL_law_237 : decode cL_law 237 = .ok (.aload_n 1, 1) := by decide +kernel
theorem dL_law_238 : decode cL_law 238 = .ok (.aload_n 0, 1) := by decide +kernel
theorem dL_law_239 : decode cL_law 239 = .ok (.iload_n 3, 1) := by decide +kernel
theorem dL_law_240 : decode cL_law 240 = .ok (.iconst 1, 1) := by decide +kernel
theorem dL_law_241 : decode cL_law 241 = .ok (.iadd, 1) := by decide +kernel
theorem dL_law_242 : decode cL_law 242 = .ok (.iaload, 1) := by decide +kernel
theorem dL_law_243 : decode cL_law 243 = .ok (.aload_n 0, 1) := by decide +kernel
theorem dL_law_244 : decode cL_law 244 = .ok (.iload_n 3, 1) := by decide +kernel
theorem dL_law_245 : decode cL_law 245 = .ok (.iconst 2, 1) := by decide +kernel
theorem dL_law_246 : decode cL_law 246 = .ok (.iadd, 1) := by decide +kernel
theorem dL_law_247 : decode cL_law 247 = .ok (.iaload, 1) := by decide +kernel
theorem dL_law_248 : decode cL_law 248 = .ok (.invokevirtual 18, 3) := by decide +kernel
theorem dL_law_251 : decode cL_law 251 = .ok (.aload_n 2, 1) := by decide +kernel
theorem dL_law_252 : decode cL_law 252 = .ok (.aload_n 0, 1) := by decide +kernel
theorem dL_law_253 : decode cL_law 253 = .ok (.iload_n 3, 1) := by decide +kernel
theorem dL_law_254 : decode cL_law 254 = .ok (.iconst 1, 1) := by decide +kernel
theorem dL_law_255 : decode cL_law 255 = .ok (.iadd, 1) := by decide +kernel
theorem dL_law_256 : decode cL_law 256 = .ok (.iaload, 1) := by decide +kernel
theorem dL_law_257 : decode cL_law 257 = .ok (.aload_n 0, 1) := by decide +kernel
theorem dL_law_258 : decode cL_law 258 = .ok (.iload_n 3, 1) := by decide +kernel
theorem dL_law_259 : decode cL_law 259 = .ok (.iconst 2, 1) := by decide +kernel
theorem dL_law_260 : decode cL_law 260 = .ok (.iadd, 1) := by decide +kernel
theorem dL_law_261 : decode cL_law 261 = .ok (.iaload, 1) := by decide +kernel
theorem dL_law_262 : decode cL_law 262 = .ok (.invokevirtual 22, 3) := by decide +kernel
theorem dL_law_265 : decode cL_law 265 = .ok (.if_icmp .eq 1218, 3) := by decide +kernel
theorem dL_law_270 : decode cL_law 270 = .ok (.aload_n 1, 1) := by decide +kernel
theorem dL_law_271 : decode cL_law 271 = .ok (.aload_n 0, 1) := by decide +kernel
theorem dL_law_272 : decode cL_law 272 = .ok (.iload_n 3, 1) := by decide +kernel
theorem dL_law_273 : decode cL_law 273 = .ok (.iconst 1, 1) := by decide +kernel
theorem dL_law_274 : decode cL_law 274 = .ok (.iadd, 1) := by decide +kernel
theorem dL_law_275 : decode cL_law 275 = .ok (.iaload, 1) := by decide +kernel
theorem dL_law_276 : decode cL_law 276 = .ok (.aload_n 0, 1) := by decide +kernel
theorem dL_law_277 : decode cL_law 277 = .ok (.iload_n 3, 1) := by decide +kernel
theorem dL_law_278 : decode cL_law 278 = .ok (.iconst 2, 1) := by decide +kernel
theorem dL_law_279 : decode cL_law 279 = .ok (.iadd, 1) := by decide +kernel
theorem dL_law_280 : decode cL_law 280 = .ok (.iaload, 1) := by decide +kernel
theorem dL_law_281 : decode cL_law 281 = .ok (.aload_n 0, 1) := by decide +kernel
theorem dL_law_282 : decode cL_law 282 = .ok (.iload_n 3, 1) := by decide +kernel
theorem dL_law_283 : decode cL_law 283 = .ok (.iconst 3, 1) := by decide +kernel
theorem dL_law_284 : decode cL_law 284 = .ok (.iadd, 1) := by decide +kernel
theorem dL_law_285 : decode cL_law 285 = .ok (.iaload, 1) := by decide +kernel
theorem dL_law_286 : decode cL_law 286 = .ok (.aload_n 0, 1) := by decide +kernel
theorem dL_law_287 : decode cL_law 287 = .ok (.iload_n 3, 1) := by decide +kernel
theorem dL_law_288 : decode cL_law 288 = .ok (.iconst 4, 1) := by decide +kernel
theorem dL_law_289 : decode cL_law 289 = .ok (.iadd, 1) := by decide +kernel
theorem dL_law_290 : decode cL_law 290 = .ok (.iaload, 1) := by decide +kernel
theorem dL_law_291 : decode cL_law 291 = .ok (.invokevirtual 23, 3) := by decide +kernel
theorem dL_law_294 : decode cL_law 294 = .ok (.aload_n 2, 1) := by decide +kernel
theorem dL_law_295 : decode cL_law 295 = .ok (.aload_n 0, 1) := by decide +kernel
theorem dL_law_296 : decode cL_law 296 = .ok (.iload_n 3, 1) := by decide +kernel
theorem dL_law_297 : decode cL_law 297 = .ok (.iconst 1, 1) := by decide +kernel
theorem dL_law_298 : decode cL_law 298 = .ok (.iadd, 1) := by decide +kernel
theorem dL_law_299 : decode cL_law 299 = .ok (.iaload, 1) := by decide +kernel
theorem dL_law_300 : decode cL_law 300 = .ok (.aload_n 0, 1) := by decide +kernel
theorem dL_law_301 : decode cL_law 301 = .ok (.iload_n 3, 1) := by decide +kernel
theorem dL_law_302 : decode cL_law 302 = .ok (.iconst 2, 1) := by decide +kernel
theorem dL_law_303 : decode cL_law 303 = .ok (.iadd, 1) := by decide +kernel
theorem dL_law_304 : decode cL_law 304 = .ok (.iaload, 1) := by decide +kernel
theorem dL_law_305 : decode cL_law 305 = .ok (.aload_n 0, 1) := by decide +kernel
theorem dL_law_306 : decode cL_law 306 = .ok (.iload_n 3, 1) := by decide +kernel
theorem dL_law_307 : decode cL_law 307 = .ok (.iconst 3, 1) := by decide +kernel
theorem dL_law_308 : decode cL_law 308 = .ok (.iadd, 1) := by decide +kernel
theorem dL_law_309 : decode cL_law 309 = .ok (.iaload, 1) := by decide +kernel
theorem dL_law_310 : decode cL_law 310 = .ok (.aload_n 0, 1) := by decide +kernel
theorem dL_law_311 : decode cL_law 311 = .ok (.iload_n 3, 1) := by decide +kernel
theorem dL_law_312 : decode cL_law 312 = .ok (.iconst 4, 1) := by decide +kernel
theorem dL_law_313 : decode cL_law 313 = .ok (.iadd, 1) := by decide +kernel
theorem dL_law_314 : decode cL_law 314 = .ok (.iaload, 1) := by decide +kernel
theorem dL_law_315 : decode cL_law 315 = .ok (.invokevirtual 27, 3) := by decide +kernel
theorem dL_law_318 : decode cL_law 318 = .ok (.if_icmp .eq 1165, 3) := by decide +kernel
theorem dL_law_323 : decode cL_law 323 = .ok (.aload_n 1, 1) := by decide +kernel
theorem dL_law_324 : decode cL_law 324 = .ok (.aload_n 0, 1) := by decide +kernel
theorem dL_law_325 : decode cL_law 325 = .ok (.iload_n 3, 1) := by decide +kernel
theorem dL_law_326 : decode cL_law 326 = .ok (.iconst 1, 1) := by decide +kernel
theorem dL_law_327 : decode cL_law 327 = .ok (.iadd, 1) := by decide +kernel
theorem dL_law_328 : decode cL_law 328 = .ok (.iaload, 1) := by decide +kernel
theorem dL_law_329 : decode cL_law 329 = .ok (.aload_n 0, 1) := by decide +kernel
theorem dL_law_330 : decode cL_law 330 = .ok (.iload_n 3, 1) := by decide +kernel
theorem dL_law_331 : decode cL_law 331 = .ok (.iconst 2, 1) := by decide +kernel
theorem dL_law_332 : decode cL_law 332 = .ok (.iadd, 1) := by decide +kernel
theorem dL_law_333 : decode cL_law 333 = .ok (.iaload, 1) := by decide +kernel
theorem dL_law_334 : decode cL_law 334 = .ok (.aload_n 0, 1) := by decide +kernel
theorem dL_law_335 : decode cL_law 335 = .ok (.iload_n 3, 1) := by decide +kernel
theorem dL_law_336 : decode cL_law 336 = .ok (.iconst 3, 1) := by decide +kernel
theorem dL_law_337 : decode cL_law 337 = .ok (.iadd, 1) := by decide +kernel
theorem dL_law_338 : decode cL_law 338 = .ok (.iaload, 1) := by decide +kernel
theorem dL_law_339 : decode cL_law 339 = .ok (.invokevirtual 28, 3) := by decide +kernel
theorem dL_law_342 : decode cL_law 342 = .ok (.aload_n 2, 1) := by decide +kernel
theorem dL_law_343 : decode cL_law 343 = .ok (.aload_n 0, 1) := by decide +kernel
theorem dL_law_344 : decode cL_law 344 = .ok (.iload_n 3, 1) := by decide +kernel
theorem dL_law_345 : decode cL_law 345 = .ok (.iconst 1, 1) := by decide +kernel
theorem dL_law_346 : decode cL_law 346 = .ok (.iadd, 1) := by decide +kernel
theorem dL_law_347 : decode cL_law 347 = .ok (.iaload, 1) := by decide +kernel
theorem dL_law_348 : decode cL_law 348 = .ok (.aload_n 0, 1) := by decide +kernel
theorem dL_law_349 : decode cL_law 349 = .ok (.iload_n 3, 1) := by decide +kernel
theorem dL_law_350 : decode cL_law 350 = .ok (.iconst 2, 1) := by decide +kernel
theorem dL_law_351 : decode cL_law 351 = .ok (.iadd, 1) := by decide +kernel
theorem dL_law_352 : decode cL_law 352 = .ok (.iaload, 1) := by decide +kernel
theorem dL_law_353 : decode cL_law 353 = .ok (.aload_n 0, 1) := by decide +kernel
theorem dL_law_354 : decode cL_law 354 = .ok (.iload_n 3, 1) := by decide +kernel
theorem dL_law_355 : decode cL_law 355 = .ok (.iconst 3, 1) := by decide +kernel
theorem dL_law_356 : decode cL_law 356 = .ok (.iadd, 1) := by decide +kernel
theorem dL_law_357 : decode cL_law 357 = .ok (.iaload, 1) := by decide +kernel
theorem dL_law_358 : decode cL_law 358 = .ok (.invokevirtual 32, 3) := by decide +kernel
theorem dL_law_361 : decode cL_law 361 = .ok (.if_icmp .eq 1122, 3) := by decide +kernel
theorem dL_law_366 : decode cL_law 366 = .ok (.aload_n 1, 1) := by decide +kernel
theorem dL_law_367 : decode cL_law 367 = .ok (.aload_n 0, 1) := by decide +kernel
theorem dL_law_368 : decode cL_law 368 = .ok (.iload_n 3, 1) := by decide +kernel
theorem dL_law_369 : decode cL_law 369 = .ok (.iconst 1, 1) := by decide +kernel
theorem dL_law_370 : decode cL_law 370 = .ok (.iadd, 1) := by decide +kernel
theorem dL_law_371 : decode cL_law 371 = .ok (.iaload, 1) := by decide +kernel
theorem dL_law_372 : decode cL_law 372 = .ok (.aload_n 0, 1) := by decide +kernel
theorem dL_law_373 : decode cL_law 373 = .ok (.iload_n 3, 1) := by decide +kernel
theorem dL_law_374 : decode cL_law 374 = .ok (.iconst 2, 1) := by decide +kernel
theorem dL_law_375 : decode cL_law 375 = .ok (.iadd, 1) := by decide +kernel
theorem dL_law_376 : decode cL_law 376 = .ok (.iaload, 1) := by decide +kernel
theorem dL_law_377 : decode cL_law 377 = .ok (.aload_n 0, 1) := by decide +kernel
theorem dL_law_378 : decode cL_law 378 = .ok (.iload_n 3, 1) := by decide +kernel
theorem dL_law_379 : decode cL_law 379 = .ok (.iconst 3, 1) := by decide +kernel
theorem dL_law_380 : decode cL_law 380 = .ok (.iadd, 1) := by decide +kernel
theorem dL_law_381 : decode cL_law 381 = .ok (.iaload, 1) := by decide +kernel
theorem dL_law_382 : decode cL_law 382 = .ok (.ifCond .eq 7, 3) := by decide +kernel
theorem dL_law_385 : decode cL_law 385 = .ok (.iconst 1, 1) := by decide +kernel
theorem dL_law_386 : decode cL_law 386 = .ok (.goto 4, 3) := by decide +kernel
theorem dL_law_389 : decode cL_law 389 = .ok (.iconst 0, 1) := by decide +kernel
theorem dL_law_390 : decode cL_law 390 = .ok (.invokevirtual 33, 3) := by decide +kernel
theorem dL_law_393 : decode cL_law 393 = .ok (.aload_n 2, 1) := by decide +kernel
theorem dL_law_394 : decode cL_law 394 = .ok (.aload_n 0, 1) := by decide +kernel
theorem dL_law_395 : decode cL_law 395 = .ok (.iload_n 3, 1) := by decide +kernel
theorem dL_law_396 : decode cL_law 396 = .ok (.iconst 1, 1) := by decide +kernel
theorem dL_law_397 : decode cL_law 397 = .ok (.iadd, 1) := by decide +kernel
theorem dL_law_398 : decode cL_law 398 = .ok (.iaload, 1) := by decide +kernel
theorem dL_law_399 : decode cL_law 399 = .ok (.aload_n 0, 1) := by decide +kernel
theorem dL_law_400 : decode cL_law 400 = .ok (.iload_n 3, 1) := by decide +kernel
theorem dL_law_401 : decode cL_law 401 = .ok (.iconst 2, 1) := by decide +kernel
theorem dL_law_402 : decode cL_law 402 = .ok (.iadd, 1) := by decide +kernel
theorem dL_law_403 : decode cL_law 403 = .ok (.iaload, 1) := by decide +kernel
theorem dL_law_404 : decode cL_law 404 = .ok (.aload_n 0, 1) := by decide +kernel
theorem dL_law_405 : decode cL_law 405 = .ok (.iload_n 3, 1) := by decide +kernel
theorem dL_law_406 : decode cL_law 406 = .ok (.iconst 3, 1) := by decide +kernel
theorem dL_law_407 : decode cL_law 407 = .ok (.iadd, 1) := by decide +kernel
theorem dL_law_408 : decode cL_law 408 = .ok (.iaload, 1) := by decide +kernel
theorem dL_law_409 : decode cL_law 409 = .ok (.ifCond .eq 7, 3) := by decide +kernel
theorem dL_law_412 : decode cL_law 412 = .ok (.iconst 1, 1) := by decide +kernel
theorem dL_law_413 : decode cL_law 413 = .ok (.goto 4, 3) := by decide +kernel
theorem dL_law_416 : decode cL_law 416 = .ok (.iconst 0, 1) := by decide +kernel
theorem dL_law_417 : decode cL_law 417 = .ok (.invokevirtual 37, 3) := by decide +kernel
theorem dL_law_420 : decode cL_law 420 = .ok (.if_icmp .eq 1063, 3) := by decide +kernel
theorem dL_law_425 : decode cL_law 425 = .ok (.aload_n 1, 1) := by decide +kernel
theorem dL_law_426 : decode cL_law 426 = .ok (.aload_n 0, 1) := by decide +kernel
theorem dL_law_427 : decode cL_law 427 = .ok (.iload_n 3, 1) := by decide +kernel
theorem dL_law_428 : decode cL_law 428 = .ok (.iconst 1, 1) := by decide +kernel
theorem dL_law_429 : decode cL_law 429 = .ok (.iadd, 1) := by decide +kernel
theorem dL_law_430 : decode cL_law 430 = .ok (.iaload, 1) := by decide +kernel
theorem dL_law_431 : decode cL_law 431 = .ok (.aload_n 0, 1) := by decide +kernel
theorem dL_law_432 : decode cL_law 432 = .ok (.iload_n 3, 1) := by decide +kernel
theorem dL_law_433 : decode cL_law 433 = .ok (.iconst 2, 1) := by decide +kernel
theorem dL_law_434 : decode cL_law 434 = .ok (.iadd, 1) := by decide +kernel
theorem dL_law_435 : decode cL_law 435 = .ok (.iaload, 1) := by decide +kernel
theorem dL_law_436 : decode cL_law 436 = .ok (.invokevirtual 38, 3) := by decide +kernel
theorem dL_law_439 : decode cL_law 439 = .ok (.aload_n 2, 1) := by decide +kernel
theorem dL_law_440 : decode cL_law 440 = .ok (.aload_n 0, 1) := by decide +kernel
theorem dL_law_441 : decode cL_law 441 = .ok (.iload_n 3, 1) := by decide +kernel
theorem dL_law_442 : decode cL_law 442 = .ok (.iconst 1, 1) := by decide +kernel
theorem dL_law_443 : decode cL_law 443 = .ok (.iadd, 1) := by decide +kernel
theorem dL_law_444 : decode cL_law 444 = .ok (.iaload, 1) := by decide +kernel
theorem dL_law_445 : decode cL_law 445 = .ok (.aload_n 0, 1) := by decide +kernel
theorem dL_law_446 : decode cL_law 446 = .ok (.iload_n 3, 1) := by decide +kernel
theorem dL_law_447 : decode cL_law 447 = .ok (.iconst 2, 1) := by decide +kernel
theorem dL_law_448 : decode cL_law 448 = .ok (.iadd, 1) := by decide +kernel
theorem dL_law_449 : decode cL_law 449 = .ok (.iaload, 1) := by decide +kernel
theorem dL_law_450 : decode cL_law 450 = .ok (.invokevirtual 41, 3) := by decide +kernel
theorem dL_law_453 : decode cL_law 453 = .ok (.if_icmp .eq 1030, 3) := by decide +kernel
theorem dL_law_458 : decode cL_law 458 = .ok (.aload_n 1, 1) := by decide +kernel
theorem dL_law_459 : decode cL_law 459 = .ok (.aload_n 0, 1) := by decide +kernel
theorem dL_law_460 : decode cL_law 460 = .ok (.iload_n 3, 1) := by decide +kernel
theorem dL_law_461 : decode cL_law 461 = .ok (.iconst 1, 1) := by decide +kernel
theorem dL_law_462 : decode cL_law 462 = .ok (.iadd, 1) := by decide +kernel
theorem dL_law_463 : decode cL_law 463 = .ok (.iaload, 1) := by decide +kernel
theorem dL_law_464 : decode cL_law 464 = .ok (.aload_n 0, 1) := by decide +kernel
theorem dL_law_465 : decode cL_law 465 = .ok (.iload_n 3, 1) := by decide +kernel
theorem dL_law_466 : decode cL_law 466 = .ok (.iconst 2, 1) := by decide +kernel
theorem dL_law_467 : decode cL_law 467 = .ok (.iadd, 1) := by decide +kernel
theorem dL_law_468 : decode cL_law 468 = .ok (.iaload, 1) := by decide +kernel
theorem dL_law_469 : decode cL_law 469 = .ok (.aload_n 0, 1) := by decide +kernel
theorem dL_law_470 : decode cL_law 470 = .ok (.iload_n 3, 1) := by decide +kernel
theorem dL_law_471 : decode cL_law 471 = .ok (.iconst 3, 1) := by decide +kernel
theorem dL_law_472 : decode cL_law 472 = .ok (.iadd, 1) := by decide +kernel
theorem dL_law_473 : decode cL_law 473 = .ok (.iaload, 1) := by decide +kernel
theorem dL_law_474 : decode cL_law 474 = .ok (.invokevirtual 42, 3) := by decide +kernel
theorem dL_law_477 : decode cL_law 477 = .ok (.aload_n 2, 1) := by decide +kernel
theorem dL_law_478 : decode cL_law 478 = .ok (.aload_n 0, 1) := by decide +kernel
theorem dL_law_479 : decode cL_law 479 = .ok (.iload_n 3, 1) := by decide +kernel
theorem dL_law_480 : decode cL_law 480 = .ok (.iconst 1, 1) := by decide +kernel
theorem dL_law_481 : decode cL_law 481 = .ok (.iadd, 1) := by decide +kernel
theorem dL_law_482 : decode cL_law 482 = .ok (.iaload, 1) := by decide +kernel
theorem dL_law_483 : decode cL_law 483 = .ok (.aload_n 0, 1) := by decide +kernel
theorem dL_law_484 : decode cL_law 484 = .ok (.iload_n 3, 1) := by decide +kernel
theorem dL_law_485 : decode cL_law 485 = .ok (.iconst 2, 1) := by decide +kernel
theorem dL_law_486 : decode cL_law 486 = .ok (.iadd, 1) := by decide +kernel
theorem dL_law_487 : decode cL_law 487 = .ok (.iaload, 1) := by decide +kernel
theorem dL_law_488 : decode cL_law 488 = .ok (.aload_n 0, 1) := by decide +kernel
theorem dL_law_489 : decode cL_law 489 = .ok (.iload_n 3, 1) := by decide +kernel
theorem dL_law_490 : decode cL_law 490 = .ok (.iconst 3, 1) := by decide +kernel
theorem dL_law_491 : decode cL_law 491 = .ok (.iadd, 1) := by decide +kernel
theorem dL_law_492 : decode cL_law 492 = .ok (.iaload, 1) := by decide +kernel
theorem dL_law_493 : decode cL_law 493 = .ok (.invokevirtual 45, 3) := by decide +kernel
theorem dL_law_496 : decode cL_law 496 = .ok (.if_icmp .eq 987, 3) := by decide +kernel
theorem dL_law_501 : decode cL_law 501 = .ok (.aload_n 1, 1) := by decide +kernel
theorem dL_law_502 : decode cL_law 502 = .ok (.invokevirtual 46, 3) := by decide +kernel
theorem dL_law_505 : decode cL_law 505 = .ok (.aload_n 2, 1) := by decide +kernel
theorem dL_law_506 : decode cL_law 506 = .ok (.invokevirtual 49, 3) := by decide +kernel
theorem dL_law_509 : decode cL_law 509 = .ok (.if_icmp .eq 974, 3) := by decide +kernel
theorem dL_law_514 : decode cL_law 514 = .ok (.aload_n 1, 1) := by decide +kernel
theorem dL_law_515 : decode cL_law 515 = .ok (.aload_n 0, 1) := by decide +kernel
theorem dL_law_516 : decode cL_law 516 = .ok (.iload_n 3, 1) := by decide +kernel
theorem dL_law_517 : decode cL_law 517 = .ok (.iconst 1, 1) := by decide +kernel
theorem dL_law_518 : decode cL_law 518 = .ok (.iadd, 1) := by decide +kernel
theorem dL_law_519 : decode cL_law 519 = .ok (.iaload, 1) := by decide +kernel
theorem dL_law_520 : decode cL_law 520 = .ok (.aload_n 0, 1) := by decide +kernel
theorem dL_law_521 : decode cL_law 521 = .ok (.iload_n 3, 1) := by decide +kernel
theorem dL_law_522 : decode cL_law 522 = .ok (.iconst 2, 1) := by decide +kernel
theorem dL_law_523 : decode cL_law 523 = .ok (.iadd, 1) := by decide +kernel
theorem dL_law_524 : decode cL_law 524 = .ok (.iaload, 1) := by decide +kernel
theorem dL_law_525 : decode cL_law 525 = .ok (.invokevirtual 50, 3) := by decide +kernel
theorem dL_law_528 : decode cL_law 528 = .ok (.aload_n 2, 1) := by decide +kernel
theorem dL_law_529 : decode cL_law 529 = .ok (.aload_n 0, 1) := by decide +kernel
theorem dL_law_530 : decode cL_law 530 = .ok (.iload_n 3, 1) := by decide +kernel
theorem dL_law_531 : decode cL_law 531 = .ok (.iconst 1, 1) := by decide +kernel
theorem dL_law_532 : decode cL_law 532 = .ok (.iadd, 1) := by decide +kernel
theorem dL_law_533 : decode cL_law 533 = .ok (.iaload, 1) := by decide +kernel
theorem dL_law_534 : decode cL_law 534 = .ok (.aload_n 0, 1) := by decide +kernel
theorem dL_law_535 : decode cL_law 535 = .ok (.iload_n 3, 1) := by decide +kernel
theorem dL_law_536 : decode cL_law 536 = .ok (.iconst 2, 1) := by decide +kernel
theorem dL_law_537 : decode cL_law 537 = .ok (.iadd, 1) := by decide +kernel
theorem dL_law_538 : decode cL_law 538 = .ok (.iaload, 1) := by decide +kernel
theorem dL_law_539 : decode cL_law 539 = .ok (.invokevirtual 53, 3) := by decide +kernel
theorem dL_law_542 : decode cL_law 542 = .ok (.if_icmp .eq 941, 3) := by decide +kernel
theorem dL_law_547 : decode cL_law 547 = .ok (.aload_n 1, 1) := by decide +kernel
theorem dL_law_548 : decode cL_law 548 = .ok (.aload_n 0, 1) := by decide +kernel
theorem dL_law_549 : decode cL_law 549 = .ok (.iload_n 3, 1) := by decide +kernel
theorem dL_law_550 : decode cL_law 550 = .ok (.iconst 1, 1) := by decide +kernel
theorem dL_law_551 : decode cL_law 551 = .ok (.iadd, 1) := by decide +kernel
theorem dL_law_552 : decode cL_law 552 = .ok (.iaload, 1) := by decide +kernel
theorem dL_law_553 : decode cL_law 553 = .ok (.aload_n 0, 1) := by decide +kernel
theorem dL_law_554 : decode cL_law 554 = .ok (.iload_n 3, 1) := by decide +kernel
theorem dL_law_555 : decode cL_law 555 = .ok (.iconst 2, 1) := by decide +kernel
theorem dL_law_556 : decode cL_law 556 = .ok (.iadd, 1) := by decide +kernel
theorem dL_law_557 : decode cL_law 557 = .ok (.iaload, 1) := by decide +kernel
theorem dL_law_558 : decode cL_law 558 = .ok (.invokevirtual 54, 3) := by decide +kernel
theorem dL_law_561 : decode cL_law 561 = .ok (.aload_n 2, 1) := by decide +kernel
theorem dL_law_562 : decode cL_law 562 = .ok (.aload_n 0, 1) := by decide +kernel
theorem dL_law_563 : decode cL_law 563 = .ok (.iload_n 3, 1) := by decide +kernel
theorem dL_law_564 : decode cL_law 564 = .ok (.iconst 1, 1) := by decide +kernel
theorem dL_law_565 : decode cL_law 565 = .ok (.iadd, 1) := by decide +kernel
theorem dL_law_566 : decode cL_law 566 = .ok (.iaload, 1) := by decide +kernel
theorem dL_law_567 : decode cL_law 567 = .ok (.aload_n 0, 1) := by decide +kernel
theorem dL_law_568 : decode cL_law 568 = .ok (.iload_n 3, 1) := by decide +kernel
theorem dL_law_569 : decode cL_law 569 = .ok (.iconst 2, 1) := by decide +kernel
theorem dL_law_570 : decode cL_law 570 = .ok (.iadd, 1) := by decide +kernel
theorem dL_law_571 : decode cL_law 571 = .ok (.iaload, 1) := by decide +kernel
theorem dL_law_572 : decode cL_law 572 = .ok (.invokevirtual 57, 3) := by decide +kernel
theorem dL_law_575 : decode cL_law 575 = .ok (.if_icmp .eq 908, 3) := by decide +kernel
theorem dL_law_580 : decode cL_law 580 = .ok (.aload_n 1, 1) := by decide +kernel
theorem dL_law_581 : decode cL_law 581 = .ok (.aload_n 0, 1) := by decide +kernel
theorem dL_law_582 : decode cL_law 582 = .ok (.iload_n 3, 1) := by decide +kernel
theorem dL_law_583 : decode cL_law 583 = .ok (.iconst 1, 1) := by decide +kernel
theorem dL_law_584 : decode cL_law 584 = .ok (.iadd, 1) := by decide +kernel
theorem dL_law_585 : decode cL_law 585 = .ok (.iaload, 1) := by decide +kernel
theorem dL_law_586 : decode cL_law 586 = .ok (.aload_n 0, 1) := by decide +kernel
theorem dL_law_587 : decode cL_law 587 = .ok (.iload_n 3, 1) := by decide +kernel
theorem dL_law_588 : decode cL_law 588 = .ok (.iconst 2, 1) := by decide +kernel
theorem dL_law_589 : decode cL_law 589 = .ok (.iadd, 1) := by decide +kernel
theorem dL_law_590 : decode cL_law 590 = .ok (.iaload, 1) := by decide +kernel
theorem dL_law_591 : decode cL_law 591 = .ok (.invokevirtual 58, 3) := by decide +kernel
theorem dL_law_594 : decode cL_law 594 = .ok (.aload_n 2, 1) := by decide +kernel
theorem dL_law_595 : decode cL_law 595 = .ok (.aload_n 0, 1) := by decide +kernel
theorem dL_law_596 : decode cL_law 596 = .ok (.iload_n 3, 1) := by decide +kernel
theorem dL_law_597 : decode cL_law 597 = .ok (.iconst 1, 1) := by decide +kernel
theorem dL_law_598 : decode cL_law 598 = .ok (.iadd, 1) := by decide +kernel
theorem dL_law_599 : decode cL_law 599 = .ok (.iaload, 1) := by decide +kernel
theorem dL_law_600 : decode cL_law 600 = .ok (.aload_n 0, 1) := by decide +kernel
theorem dL_law_601 : decode cL_law 601 = .ok (.iload_n 3, 1) := by decide +kernel
theorem dL_law_602 : decode cL_law 602 = .ok (.iconst 2, 1) := by decide +kernel
theorem dL_law_603 : decode cL_law 603 = .ok (.iadd, 1) := by decide +kernel
theorem dL_law_604 : decode cL_law 604 = .ok (.iaload, 1) := by decide +kernel
theorem dL_law_605 : decode cL_law 605 = .ok (.invokevirtual 61, 3) := by decide +kernel
theorem dL_law_608 : decode cL_law 608 = .ok (.if_icmp .eq 875, 3) := by decide +kernel
theorem dL_law_613 : decode cL_law 613 = .ok (.aload_n 1, 1) := by decide +kernel
theorem dL_law_614 : decode cL_law 614 = .ok (.aload_n 0, 1) := by decide +kernel
theorem dL_law_615 : decode cL_law 615 = .ok (.iload_n 3, 1) := by decide +kernel
theorem dL_law_616 : decode cL_law 616 = .ok (.iconst 1, 1) := by decide +kernel
theorem dL_law_617 : decode cL_law 617 = .ok (.iadd, 1) := by decide +kernel
theorem dL_law_618 : decode cL_law 618 = .ok (.iaload, 1) := by decide +kernel
theorem dL_law_619 : decode cL_law 619 = .ok (.invokevirtual 62, 3) := by decide +kernel
theorem dL_law_622 : decode cL_law 622 = .ok (.aload_n 2, 1) := by decide +kernel
theorem dL_law_623 : decode cL_law 623 = .ok (.aload_n 0, 1) := by decide +kernel
theorem dL_law_624 : decode cL_law 624 = .ok (.iload_n 3, 1) := by decide +kernel
theorem dL_law_625 : decode cL_law 625 = .ok (.iconst 1, 1) := by decide +kernel
theorem dL_law_626 : decode cL_law 626 = .ok (.iadd, 1) := by decide +kernel
theorem dL_law_627 : decode cL_law 627 = .ok (.iaload, 1) := by decide +kernel
theorem dL_law_628 : decode cL_law 628 = .ok (.invokevirtual 66, 3) := by decide +kernel
theorem dL_law_631 : decode cL_law 631 = .ok (.if_icmp .eq 852, 3) := by decide +kernel
theorem dL_law_636 : decode cL_law 636 = .ok (.aload_n 1, 1) := by decide +kernel
theorem dL_law_637 : decode cL_law 637 = .ok (.aload_n 0, 1) := by decide +kernel
theorem dL_law_638 : decode cL_law 638 = .ok (.iload_n 3, 1) := by decide +kernel
theorem dL_law_639 : decode cL_law 639 = .ok (.iconst 1, 1) := by decide +kernel
theorem dL_law_640 : decode cL_law 640 = .ok (.iadd, 1) := by decide +kernel
theorem dL_law_641 : decode cL_law 641 = .ok (.iaload, 1) := by decide +kernel
theorem dL_law_642 : decode cL_law 642 = .ok (.aload_n 0, 1) := by decide +kernel
theorem dL_law_643 : decode cL_law 643 = .ok (.iload_n 3, 1) := by decide +kernel
theorem dL_law_644 : decode cL_law 644 = .ok (.iconst 2, 1) := by decide +kernel
theorem dL_law_645 : decode cL_law 645 = .ok (.iadd, 1) := by decide +kernel
theorem dL_law_646 : decode cL_law 646 = .ok (.iaload, 1) := by decide +kernel
theorem dL_law_647 : decode cL_law 647 = .ok (.invokevirtual 67, 3) := by decide +kernel
theorem dL_law_650 : decode cL_law 650 = .ok (.aload_n 2, 1) := by decide +kernel
theorem dL_law_651 : decode cL_law 651 = .ok (.aload_n 0, 1) := by decide +kernel
theorem dL_law_652 : decode cL_law 652 = .ok (.iload_n 3, 1) := by decide +kernel
theorem dL_law_653 : decode cL_law 653 = .ok (.iconst 1, 1) := by decide +kernel
theorem dL_law_654 : decode cL_law 654 = .ok (.iadd, 1) := by decide +kernel
theorem dL_law_655 : decode cL_law 655 = .ok (.iaload, 1) := by decide +kernel
theorem dL_law_656 : decode cL_law 656 = .ok (.aload_n 0, 1) := by decide +kernel
theorem dL_law_657 : decode cL_law 657 = .ok (.iload_n 3, 1) := by decide +kernel
theorem dL_law_658 : decode cL_law 658 = .ok (.iconst 2, 1) := by decide +kernel
theorem dL_law_659 : decode cL_law 659 = .ok (.iadd, 1) := by decide +kernel
theorem dL_law_660 : decode cL_law 660 = .ok (.iaload, 1) := by decide +kernel
theorem dL_law_661 : decode cL_law 661 = .ok (.invokevirtual 70, 3) := by decide +kernel
theorem dL_law_664 : decode cL_law 664 = .ok (.if_icmp .eq 819, 3) := by decide +kernel
theorem dL_law_669 : decode cL_law 669 = .ok (.aload_n 1, 1) := by decide +kernel
theorem dL_law_670 : decode cL_law 670 = .ok (.aload_n 0, 1) := by decide +kernel
theorem dL_law_671 : decode cL_law 671 = .ok (.iload_n 3, 1) := by decide +kernel
theorem dL_law_672 : decode cL_law 672 = .ok (.iconst 1, 1) := by decide +kernel
theorem dL_law_673 : decode cL_law 673 = .ok (.iadd, 1) := by decide +kernel
theorem dL_law_674 : decode cL_law 674 = .ok (.iaload, 1) := by decide +kernel
theorem dL_law_675 : decode cL_law 675 = .ok (.aload_n 0, 1) := by decide +kernel
theorem dL_law_676 : decode cL_law 676 = .ok (.iload_n 3, 1) := by decide +kernel
theorem dL_law_677 : decode cL_law 677 = .ok (.iconst 2, 1) := by decide +kernel
theorem dL_law_678 : decode cL_law 678 = .ok (.iadd, 1) := by decide +kernel
theorem dL_law_679 : decode cL_law 679 = .ok (.iaload, 1) := by decide +kernel
theorem dL_law_680 : decode cL_law 680 = .ok (.invokevirtual 71, 3) := by decide +kernel
theorem dL_law_683 : decode cL_law 683 = .ok (.aload_n 2, 1) := by decide +kernel
theorem dL_law_684 : decode cL_law 684 = .ok (.aload_n 0, 1) := by decide +kernel
theorem dL_law_685 : decode cL_law 685 = .ok (.iload_n 3, 1) := by decide +kernel
theorem dL_law_686 : decode cL_law 686 = .ok (.iconst 1, 1) := by decide +kernel
theorem dL_law_687 : decode cL_law 687 = .ok (.iadd, 1) := by decide +kernel
theorem dL_law_688 : decode cL_law 688 = .ok (.iaload, 1) := by decide +kernel
theorem dL_law_689 : decode cL_law 689 = .ok (.aload_n 0, 1) := by decide +kernel
theorem dL_law_690 : decode cL_law 690 = .ok (.iload_n 3, 1) := by decide +kernel
theorem dL_law_691 : decode cL_law 691 = .ok (.iconst 2, 1) := by decide +kernel
theorem dL_law_692 : decode cL_law 692 = .ok (.iadd, 1) := by decide +kernel
theorem dL_law_693 : decode cL_law 693 = .ok (.iaload, 1) := by decide +kernel
theorem dL_law_694 : decode cL_law 694 = .ok (.invokevirtual 74, 3) := by decide +kernel
theorem dL_law_697 : decode cL_law 697 = .ok (.if_icmp .eq 786, 3) := by decide +kernel
theorem dL_law_702 : decode cL_law 702 = .ok (.aload_n 1, 1) := by decide +kernel
theorem dL_law_703 : decode cL_law 703 = .ok (.invokevirtual 75, 3) := by decide +kernel
theorem dL_law_706 : decode cL_law 706 = .ok (.aload_n 2, 1) := by decide +kernel
theorem dL_law_707 : decode cL_law 707 = .ok (.invokevirtual 78, 3) := by decide +kernel
theorem dL_law_710 : decode cL_law 710 = .ok (.if_icmp .eq 773, 3) := by decide +kernel
theorem dL_law_715 : decode cL_law 715 = .ok (.aload_n 1, 1) := by decide +kernel
theorem dL_law_716 : decode cL_law 716 = .ok (.aload_n 0, 1) := by decide +kernel
theorem dL_law_717 : decode cL_law 717 = .ok (.iload_n 3, 1) := by decide +kernel
theorem dL_law_718 : decode cL_law 718 = .ok (.iconst 1, 1) := by decide +kernel
theorem dL_law_719 : decode cL_law 719 = .ok (.iadd, 1) := by decide +kernel
theorem dL_law_720 : decode cL_law 720 = .ok (.iaload, 1) := by decide +kernel
theorem dL_law_721 : decode cL_law 721 = .ok (.invokevirtual 79, 3) := by decide +kernel
theorem dL_law_724 : decode cL_law 724 = .ok (.aload_n 2, 1) := by decide +kernel
theorem dL_law_725 : decode cL_law 725 = .ok (.aload_n 0, 1) := by decide +kernel
theorem dL_law_726 : decode cL_law 726 = .ok (.iload_n 3, 1) := by decide +kernel
theorem dL_law_727 : decode cL_law 727 = .ok (.iconst 1, 1) := by decide +kernel
theorem dL_law_728 : decode cL_law 728 = .ok (.iadd, 1) := by decide +kernel
theorem dL_law_729 : decode cL_law 729 = .ok (.iaload, 1) := by decide +kernel
theorem dL_law_730 : decode cL_law 730 = .ok (.invokevirtual 82, 3) := by decide +kernel
theorem dL_law_733 : decode cL_law 733 = .ok (.if_icmp .eq 750, 3) := by decide +kernel
theorem dL_law_738 : decode cL_law 738 = .ok (.aload_n 1, 1) := by decide +kernel
theorem dL_law_739 : decode cL_law 739 = .ok (.aload_n 0, 1) := by decide +kernel
theorem dL_law_740 : decode cL_law 740 = .ok (.iload_n 3, 1) := by decide +kernel
theorem dL_law_741 : decode cL_law 741 = .ok (.iconst 1, 1) := by decide +kernel
theorem dL_law_742 : decode cL_law 742 = .ok (.iadd, 1) := by decide +kernel
theorem dL_law_743 : decode cL_law 743 = .ok (.iaload, 1) := by decide +kernel
theorem dL_law_744 : decode cL_law 744 = .ok (.aload_n 0, 1) := by decide +kernel
theorem dL_law_745 : decode cL_law 745 = .ok (.iload_n 3, 1) := by decide +kernel
theorem dL_law_746 : decode cL_law 746 = .ok (.iconst 2, 1) := by decide +kernel
theorem dL_law_747 : decode cL_law 747 = .ok (.iadd, 1) := by decide +kernel
theorem dL_law_748 : decode cL_law 748 = .ok (.iaload, 1) := by decide +kernel
theorem dL_law_749 : decode cL_law 749 = .ok (.aload_n 0, 1) := by decide +kernel
theorem dL_law_750 : decode cL_law 750 = .ok (.iload_n 3, 1) := by decide +kernel
theorem dL_law_751 : decode cL_law 751 = .ok (.iconst 3, 1) := by decide +kernel
theorem dL_law_752 : decode cL_law 752 = .ok (.iadd, 1) := by decide +kernel
theorem dL_law_753 : decode cL_law 753 = .ok (.iaload, 1) := by decide +kernel
theorem dL_law_754 : decode cL_law 754 = .ok (.invokevirtual 83, 3) := by decide +kernel
theorem dL_law_757 : decode cL_law 757 = .ok (.aload_n 2, 1) := by decide +kernel
theorem dL_law_758 : decode cL_law 758 = .ok (.aload_n 0, 1) := by decide +kernel
theorem dL_law_759 : decode cL_law 759 = .ok (.iload_n 3, 1) := by decide +kernel
theorem dL_law_760 : decode cL_law 760 = .ok (.iconst 1, 1) := by decide +kernel
theorem dL_law_761 : decode cL_law 761 = .ok (.iadd, 1) := by decide +kernel
theorem dL_law_762 : decode cL_law 762 = .ok (.iaload, 1) := by decide +kernel
theorem dL_law_763 : decode cL_law 763 = .ok (.aload_n 0, 1) := by decide +kernel
theorem dL_law_764 : decode cL_law 764 = .ok (.iload_n 3, 1) := by decide +kernel
theorem dL_law_765 : decode cL_law 765 = .ok (.iconst 2, 1) := by decide +kernel
theorem dL_law_766 : decode cL_law 766 = .ok (.iadd, 1) := by decide +kernel
theorem dL_law_767 : decode cL_law 767 = .ok (.iaload, 1) := by decide +kernel
theorem dL_law_768 : decode cL_law 768 = .ok (.aload_n 0, 1) := by decide +kernel
theorem dL_law_769 : decode cL_law 769 = .ok (.iload_n 3, 1) := by decide +kernel
theorem dL_law_770 : decode cL_law 770 = .ok (.iconst 3, 1) := by decide +kernel
theorem dL_law_771 : decode cL_law 771 = .ok (.iadd, 1) := by decide +kernel
theorem dL_law_772 : decode cL_law 772 = .ok (.iaload, 1) := by decide +kernel
theorem dL_law_773 : decode cL_law 773 = .ok (.invokevirtual 86, 3) := by decide +kernel
theorem dL_law_776 : decode cL_law 776 = .ok (.if_icmp .eq 707, 3) := by decide +kernel
theorem dL_law_781 : decode cL_law 781 = .ok (.aload_n 1, 1) := by decide +kernel
theorem dL_law_782 : decode cL_law 782 = .ok (.invokevirtual 87, 3) := by decide +kernel
theorem dL_law_785 : decode cL_law 785 = .ok (.aload_n 2, 1) := by decide +kernel
theorem dL_law_786 : decode cL_law 786 = .ok (.invokevirtual 90, 3) := by decide +kernel
theorem dL_law_789 : decode cL_law 789 = .ok (.if_icmp .eq 694, 3) := by decide +kernel
theorem dL_law_794 : decode cL_law 794 = .ok (.aload_n 1, 1) := by decide +kernel
theorem dL_law_795 : decode cL_law 795 = .ok (.aload_n 0, 1) := by decide +kernel
theorem dL_law_796 : decode cL_law 796 = .ok (.iload_n 3, 1) := by decide +kernel
theorem dL_law_797 : decode cL_law 797 = .ok (.iconst 1, 1) := by decide +kernel
theorem dL_law_798 : decode cL_law 798 = .ok (.iadd, 1) := by decide +kernel
theorem dL_law_799 : decode cL_law 799 = .ok (.iaload, 1) := by decide +kernel
theorem dL_law_800 : decode cL_law 800 = .ok (.invokevirtual 91, 3) := by decide +kernel
theorem dL_law_803 : decode cL_law 803 = .ok (.aload_n 2, 1) := by decide +kernel
theorem dL_law_804 : decode cL_law 804 = .ok (.aload_n 0, 1) := by decide +kernel
theorem dL_law_805 : decode cL_law 805 = .ok (.iload_n 3, 1) := by decide +kernel
theorem dL_law_806 : decode cL_law 806 = .ok (.iconst 1, 1) := by decide +kernel
theorem dL_law_807 : decode cL_law 807 = .ok (.iadd, 1) := by decide +kernel
theorem dL_law_808 : decode cL_law 808 = .ok (.iaload, 1) := by decide +kernel
theorem dL_law_809 : decode cL_law 809 = .ok (.invokevirtual 94, 3) := by decide +kernel
theorem dL_law_812 : decode cL_law 812 = .ok (.if_icmp .eq 671, 3) := by decide +kernel
theorem dL_law_817 : decode cL_law 817 = .ok (.aload_n 1, 1) := by decide +kernel
theorem dL_law_818 : decode cL_law 818 = .ok (.aload_n 0, 1) := by decide +kernel
theorem dL_law_819 : decode cL_law 819 = .ok (.iload_n 3, 1) := by decide +kernel
theorem dL_law_820 : decode cL_law 820 = .ok (.iconst 1, 1) := by decide +kernel
theorem dL_law_821 : decode cL_law 821 = .ok (.iadd, 1) := by decide +kernel
theorem dL_law_822 : decode cL_law 822 = .ok (.iaload, 1) := by decide +kernel
theorem dL_law_823 : decode cL_law 823 = .ok (.aload_n 0, 1) := by decide +kernel
theorem dL_law_824 : decode cL_law 824 = .ok (.iload_n 3, 1) := by decide +kernel
theorem dL_law_825 : decode cL_law 825 = .ok (.iconst 2, 1) := by decide +kernel
theorem dL_law_826 : decode cL_law 826 = .ok (.iadd, 1) := by decide +kernel
theorem dL_law_827 : decode cL_law 827 = .ok (.iaload, 1) := by decide +kernel
theorem dL_law_828 : decode cL_law 828 = .ok (.invokevirtual 95, 3) := by decide +kernel
theorem dL_law_831 : decode cL_law 831 = .ok (.aload_n 2, 1) := by decide +kernel
theorem dL_law_832 : decode cL_law 832 = .ok (.aload_n 0, 1) := by decide +kernel
theorem dL_law_833 : decode cL_law 833 = .ok (.iload_n 3, 1) := by decide +kernel
theorem dL_law_834 : decode cL_law 834 = .ok (.iconst 1, 1) := by decide +kernel
theorem dL_law_835 : decode cL_law 835 = .ok (.iadd, 1) := by decide +kernel
theorem dL_law_836 : decode cL_law 836 = .ok (.iaload, 1) := by decide +kernel
theorem dL_law_837 : decode cL_law 837 = .ok (.aload_n 0, 1) := by decide +kernel
theorem dL_law_838 : decode cL_law 838 = .ok (.iload_n 3, 1) := by decide +kernel
theorem dL_law_839 : decode cL_law 839 = .ok (.iconst 2, 1) := by decide +kernel
theorem dL_law_840 : decode cL_law 840 = .ok (.iadd, 1) := by decide +kernel
theorem dL_law_841 : decode cL_law 841 = .ok (.iaload, 1) := by decide +kernel
theorem dL_law_842 : decode cL_law 842 = .ok (.invokevirtual 98, 3) := by decide +kernel
theorem dL_law_845 : decode cL_law 845 = .ok (.if_icmp .eq 638, 3) := by decide +kernel
theorem dL_law_850 : decode cL_law 850 = .ok (.aload_n 1, 1) := by decide +kernel
theorem dL_law_851 : decode cL_law 851 = .ok (.invokevirtual 99, 3) := by decide +kernel
theorem dL_law_854 : decode cL_law 854 = .ok (.aload_n 2, 1) := by decide +kernel
theorem dL_law_855 : decode cL_law 855 = .ok (.invokevirtual 102, 3) := by decide +kernel
theorem dL_law_858 : decode cL_law 858 = .ok (.if_icmp .eq 625, 3) := by decide +kernel
theorem dL_law_863 : decode cL_law 863 = .ok (.aload_n 1, 1) := by decide +kernel
theorem dL_law_864 : decode cL_law 864 = .ok (.aload_n 0, 1) := by decide +kernel
theorem dL_law_865 : decode cL_law 865 = .ok (.iload_n 3, 1) := by decide +kernel
theorem dL_law_866 : decode cL_law 866 = .ok (.iconst 1, 1) := by decide +kernel
theorem dL_law_867 : decode cL_law 867 = .ok (.iadd, 1) := by decide +kernel
theorem dL_law_868 : decode cL_law 868 = .ok (.iaload, 1) := by decide +kernel
theorem dL_law_869 : decode cL_law 869 = .ok (.aload_n 0, 1) := by decide +kernel
theorem dL_law_870 : decode cL_law 870 = .ok (.iload_n 3, 1) := by decide +kernel
theorem dL_law_871 : decode cL_law 871 = .ok (.iconst 2, 1) := by decide +kernel
theorem dL_law_872 : decode cL_law 872 = .ok (.iadd, 1) := by decide +kernel
theorem dL_law_873 : decode cL_law 873 = .ok (.iaload, 1) := by decide +kernel
theorem dL_law_874 : decode cL_law 874 = .ok (.aload_n 0, 1) := by decide +kernel
theorem dL_law_875 : decode cL_law 875 = .ok (.iload_n 3, 1) := by decide +kernel
theorem dL_law_876 : decode cL_law 876 = .ok (.iconst 3, 1) := by decide +kernel
theorem dL_law_877 : decode cL_law 877 = .ok (.iadd, 1) := by decide +kernel
theorem dL_law_878 : decode cL_law 878 = .ok (.iaload, 1) := by decide +kernel
theorem dL_law_879 : decode cL_law 879 = .ok (.aload_n 0, 1) := by decide +kernel
theorem dL_law_880 : decode cL_law 880 = .ok (.iload_n 3, 1) := by decide +kernel
theorem dL_law_881 : decode cL_law 881 = .ok (.iconst 4, 1) := by decide +kernel
theorem dL_law_882 : decode cL_law 882 = .ok (.iadd, 1) := by decide +kernel
theorem dL_law_883 : decode cL_law 883 = .ok (.iaload, 1) := by decide +kernel
theorem dL_law_884 : decode cL_law 884 = .ok (.invokevirtual 103, 3) := by decide +kernel
theorem dL_law_887 : decode cL_law 887 = .ok (.aload_n 2, 1) := by decide +kernel
theorem dL_law_888 : decode cL_law 888 = .ok (.aload_n 0, 1) := by decide +kernel
theorem dL_law_889 : decode cL_law 889 = .ok (.iload_n 3, 1) := by decide +kernel
theorem dL_law_890 : decode cL_law 890 = .ok (.iconst 1, 1) := by decide +kernel
theorem dL_law_891 : decode cL_law 891 = .ok (.iadd, 1) := by decide +kernel
theorem dL_law_892 : decode cL_law 892 = .ok (.iaload, 1) := by decide +kernel
theorem dL_law_893 : decode cL_law 893 = .ok (.aload_n 0, 1) := by decide +kernel
theorem dL_law_894 : decode cL_law 894 = .ok (.iload_n 3, 1) := by decide +kernel
theorem dL_law_895 : decode cL_law 895 = .ok (.iconst 2, 1) := by decide +kernel
theorem dL_law_896 : decode cL_law 896 = .ok (.iadd, 1) := by decide +kernel
theorem dL_law_897 : decode cL_law 897 = .ok (.iaload, 1) := by decide +kernel
theorem dL_law_898 : decode cL_law 898 = .ok (.aload_n 0, 1) := by decide +kernel
theorem dL_law_899 : decode cL_law 899 = .ok (.iload_n 3, 1) := by decide +kernel
theorem dL_law_900 : decode cL_law 900 = .ok (.iconst 3, 1) := by decide +kernel
theorem dL_law_901 : decode cL_law 901 = .ok (.iadd, 1) := by decide +kernel
theorem dL_law_902 : decode cL_law 902 = .ok (.iaload, 1) := by decide +kernel
theorem dL_law_903 : decode cL_law 903 = .ok (.aload_n 0, 1) := by decide +kernel
theorem dL_law_904 : decode cL_law 904 = .ok (.iload_n 3, 1) := by decide +kernel
theorem dL_law_905 : decode cL_law 905 = .ok (.iconst 4, 1) := by decide +kernel
theorem dL_law_906 : decode cL_law 906 = .ok (.iadd, 1) := by decide +kernel
theorem dL_law_907 : decode cL_law 907 = .ok (.iaload, 1) := by decide +kernel
theorem dL_law_908 : decode cL_law 908 = .ok (.invokevirtual 106, 3) := by decide +kernel
theorem dL_law_911 : decode cL_law 911 = .ok (.if_icmp .eq 572, 3) := by decide +kernel
theorem dL_law_916 : decode cL_law 916 = .ok (.aload_n 1, 1) := by decide +kernel
theorem dL_law_917 : decode cL_law 917 = .ok (.aload_n 0, 1) := by decide +kernel
theorem dL_law_918 : decode cL_law 918 = .ok (.iload_n 3, 1) := by decide +kernel
theorem dL_law_919 : decode cL_law 919 = .ok (.iconst 1, 1) := by decide +kernel
theorem dL_law_920 : decode cL_law 920 = .ok (.iadd, 1) := by decide +kernel
theorem dL_law_921 : decode cL_law 921 = .ok (.iaload, 1) := by decide +kernel
theorem dL_law_922 : decode cL_law 922 = .ok (.aload_n 0, 1) := by decide +kernel
theorem dL_law_923 : decode cL_law 923 = .ok (.iload_n 3, 1) := by decide +kernel
theorem dL_law_924 : decode cL_law 924 = .ok (.iconst 2, 1) := by decide +kernel
theorem dL_law_925 : decode cL_law 925 = .ok (.iadd, 1) := by decide +kernel
theorem dL_law_926 : decode cL_law 926 = .ok (.iaload, 1) := by decide +kernel
theorem dL_law_927 : decode cL_law 927 = .ok (.invokevirtual 107, 3) := by decide +kernel
theorem dL_law_930 : decode cL_law 930 = .ok (.aload_n 2, 1) := by decide +kernel
theorem dL_law_931 : decode cL_law 931 = .ok (.aload_n 0, 1) := by decide +kernel
theorem dL_law_932 : decode cL_law 932 = .ok (.iload_n 3, 1) := by decide +kernel
theorem dL_law_933 : decode cL_law 933 = .ok (.iconst 1, 1) := by decide +kernel
theorem dL_law_934 : decode cL_law 934 = .ok (.iadd, 1) := by decide +kernel
theorem dL_law_935 : decode cL_law 935 = .ok (.iaload, 1) := by decide +kernel
theorem dL_law_936 : decode cL_law 936 = .ok (.aload_n 0, 1) := by decide +kernel
theorem dL_law_937 : decode cL_law 937 = .ok (.iload_n 3, 1) := by decide +kernel
theorem dL_law_938 : decode cL_law 938 = .ok (.iconst 2, 1) := by decide +kernel
theorem dL_law_939 : decode cL_law 939 = .ok (.iadd, 1) := by decide +kernel
theorem dL_law_940 : decode cL_law 940 = .ok (.iaload, 1) := by decide +kernel
theorem dL_law_941 : decode cL_law 941 = .ok (.invokevirtual 110, 3) := by decide +kernel
theorem dL_law_944 : decode cL_law 944 = .ok (.if_icmp .eq 539, 3) := by decide +kernel
theorem dL_law_949 : decode cL_law 949 = .ok (.aload_n 1, 1) := by decide +kernel
theorem dL_law_950 : decode cL_law 950 = .ok (.invokevirtual 111, 3) := by decide +kernel
theorem dL_law_953 : decode cL_law 953 = .ok (.aload_n 2, 1) := by decide +kernel
theorem dL_law_954 : decode cL_law 954 = .ok (.invokevirtual 114, 3) := by decide +kernel
theorem dL_law_957 : decode cL_law 957 = .ok (.if_icmp .eq 526, 3) := by decide +kernel
theorem dL_law_962 : decode cL_law 962 = .ok (.aload_n 1, 1) := by decide +kernel
theorem dL_law_963 : decode cL_law 963 = .ok (.invokevirtual 115, 3) := by decide +kernel
theorem dL_law_966 : decode cL_law 966 = .ok (.aload_n 2, 1) := by decide +kernel
theorem dL_law_967 : decode cL_law 967 = .ok (.invokevirtual 118, 3) := by decide +kernel
theorem dL_law_970 : decode cL_law 970 = .ok (.if_icmp .eq 513, 3) := by decide +kernel
theorem dL_law_975 : decode cL_law 975 = .ok (.aload_n 1, 1) := by decide +kernel
theorem dL_law_976 : decode cL_law 976 = .ok (.aload_n 0, 1) := by decide +kernel
theorem dL_law_977 : decode cL_law 977 = .ok (.iload_n 3, 1) := by decide +kernel
theorem dL_law_978 : decode cL_law 978 = .ok (.iconst 1, 1) := by decide +kernel
theorem dL_law_979 : decode cL_law 979 = .ok (.iadd, 1) := by decide +kernel
theorem dL_law_980 : decode cL_law 980 = .ok (.iaload, 1) := by decide +kernel
theorem dL_law_981 : decode cL_law 981 = .ok (.invokevirtual 119, 3) := by decide +kernel
theorem dL_law_984 : decode cL_law 984 = .ok (.aload_n 2, 1) := by decide +kernel
theorem dL_law_985 : decode cL_law 985 = .ok (.aload_n 0, 1) := by decide +kernel
theorem dL_law_986 : decode cL_law 986 = .ok (.iload_n 3, 1) := by decide +kernel
theorem dL_law_987 : decode cL_law 987 = .ok (.iconst 1, 1) := by decide +kernel
theorem dL_law_988 : decode cL_law 988 = .ok (.iadd, 1) := by decide +kernel
theorem dL_law_989 : decode cL_law 989 = .ok (.iaload, 1) := by decide +kernel
theorem dL_law_990 : decode cL_law 990 = .ok (.invokevirtual 122, 3) := by decide +kernel
theorem dL_law_993 : decode cL_law 993 = .ok (.if_icmp .eq 490, 3) := by decide +kernel
theorem dL_law_998 : decode cL_law 998 = .ok (.aload_n 1, 1) := by decide +kernel
theorem dL_law_999 : decode cL_law 999 = .ok (.invokevirtual 123, 3) := by decide +kernel
theorem dL_law_1002 : decode cL_law 1002 = .ok (.aload_n 2, 1) := by decide +kernel
theorem dL_law_1003 : decode cL_law 1003 = .ok (.invokevirtual 126, 3) := by decide +kernel
theorem dL_law_1006 : decode cL_law 1006 = .ok (.if_icmp .eq 477, 3) := by decide +kernel
theorem dL_law_1011 : decode cL_law 1011 = .ok (.aload_n 1, 1) := by decide +kernel
theorem dL_law_1012 : decode cL_law 1012 = .ok (.aload_n 0, 1) := by decide +kernel
theorem dL_law_1013 : decode cL_law 1013 = .ok (.iload_n 3, 1) := by decide +kernel
theorem dL_law_1014 : decode cL_law 1014 = .ok (.iconst 1, 1) := by decide +kernel
theorem dL_law_1015 : decode cL_law 1015 = .ok (.iadd, 1) := by decide +kernel
theorem dL_law_1016 : decode cL_law 1016 = .ok (.iaload, 1) := by decide +kernel
theorem dL_law_1017 : decode cL_law 1017 = .ok (.aload_n 0, 1) := by decide +kernel
theorem dL_law_1018 : decode cL_law 1018 = .ok (.iload_n 3, 1) := by decide +kernel
theorem dL_law_1019 : decode cL_law 1019 = .ok (.iconst 2, 1) := by decide +kernel
theorem dL_law_1020 : decode cL_law 1020 = .ok (.iadd, 1) := by decide +kernel
theorem dL_law_1021 : decode cL_law 1021 = .ok (.iaload, 1) := by decide +kernel
theorem dL_law_1022 : decode cL_law 1022 = .ok (.invokevirtual 127, 3) := by decide +kernel
theorem dL_law_1025 : decode cL_law 1025 = .ok (.aload_n 2, 1) := by decide +kernel
theorem dL_law_1026 : decode cL_law 1026 = .ok (.aload_n 0, 1) := by decide +kernel
theorem dL_law_1027 : decode cL_law 1027 = .ok (.iload_n 3, 1) := by decide +kernel
theorem dL_law_1028 : decode cL_law 1028 = .ok (.iconst 1, 1) := by decide +kernel
theorem dL_law_1029 : decode cL_law 1029 = .ok (.iadd, 1) := by decide +kernel
theorem dL_law_1030 : decode cL_law 1030 = .ok (.iaload, 1) := by decide +kernel
theorem dL_law_1031 : decode cL_law 1031 = .ok (.aload_n 0, 1) := by decide +kernel
theorem dL_law_1032 : decode cL_law 1032 = .ok (.iload_n 3, 1) := by decide +kernel
theorem dL_law_1033 : decode cL_law 1033 = .ok (.iconst 2, 1) := by decide +kernel
theorem dL_law_1034 : decode cL_law 1034 = .ok (.iadd, 1) := by decide +kernel
theorem dL_law_1035 : decode cL_law 1035 = .ok (.iaload, 1) := by decide +kernel
theorem dL_law_1036 : decode cL_law 1036 = .ok (.invokevirtual 130, 3) := by decide +kernel
theorem dL_law_1039 : decode cL_law 1039 = .ok (.if_icmp .eq 444, 3) := by decide +kernel
theorem dL_law_1044 : decode cL_law 1044 = .ok (.aload_n 1, 1) := by decide +kernel
theorem dL_law_1045 : decode cL_law 1045 = .ok (.invokevirtual 131, 3) := by decide +kernel
theorem dL_law_1048 : decode cL_law 1048 = .ok (.aload_n 2, 1) := by decide +kernel
theorem dL_law_1049 : decode cL_law 1049 = .ok (.invokevirtual 134, 3) := by decide +kernel
theorem dL_law_1052 : decode cL_law 1052 = .ok (.if_icmp .eq 431, 3) := by decide +kernel
theorem dL_law_1057 : decode cL_law 1057 = .ok (.aload_n 1, 1) := by decide +kernel
theorem dL_law_1058 : decode cL_law 1058 = .ok (.aload_n 0, 1) := by decide +kernel
theorem dL_law_1059 : decode cL_law 1059 = .ok (.iload_n 3, 1) := by decide +kernel
theorem dL_law_1060 : decode cL_law 1060 = .ok (.iconst 1, 1) := by decide +kernel
theorem dL_law_1061 : decode cL_law 1061 = .ok (.iadd, 1) := by decide +kernel
theorem dL_law_1062 : decode cL_law 1062 = .ok (.iaload, 1) := by decide +kernel
theorem dL_law_1063 : decode cL_law 1063 = .ok (.aload_n 0, 1) := by decide +kernel
theorem dL_law_1064 : decode cL_law 1064 = .ok (.iload_n 3, 1) := by decide +kernel
theorem dL_law_1065 : decode cL_law 1065 = .ok (.iconst 2, 1) := by decide +kernel
theorem dL_law_1066 : decode cL_law 1066 = .ok (.iadd, 1) := by decide +kernel
theorem dL_law_1067 : decode cL_law 1067 = .ok (.iaload, 1) := by decide +kernel
theorem dL_law_1068 : decode cL_law 1068 = .ok (.invokevirtual 135, 3) := by decide +kernel
theorem dL_law_1071 : decode cL_law 1071 = .ok (.aload_n 2, 1) := by decide +kernel
theorem dL_law_1072 : decode cL_law 1072 = .ok (.aload_n 0, 1) := by decide +kernel
theorem dL_law_1073 : decode cL_law 1073 = .ok (.iload_n 3, 1) := by decide +kernel
theorem dL_law_1074 : decode cL_law 1074 = .ok (.iconst 1, 1) := by decide +kernel
theorem dL_law_1075 : decode cL_law 1075 = .ok (.iadd, 1) := by decide +kernel
theorem dL_law_1076 : decode cL_law 1076 = .ok (.iaload, 1) := by decide +kernel
theorem dL_law_1077 : decode cL_law 1077 = .ok (.aload_n 0, 1) := by decide +kernel
theorem dL_law_1078 : decode cL_law 1078 = .ok (.iload_n 3, 1) := by decide +kernel
theorem dL_law_1079 : decode cL_law 1079 = .ok (.iconst 2, 1) := by decide +kernel
theorem dL_law_1080 : decode cL_law 1080 = .ok (.iadd, 1) := by decide +kernel
theorem dL_law_1081 : decode cL_law 1081 = .ok (.iaload, 1) := by decide +kernel
theorem dL_law_1082 : decode cL_law 1082 = .ok (.invokevirtual 138, 3) := by decide +kernel
theorem dL_law_1085 : decode cL_law 1085 = .ok (.if_icmp .eq 398, 3) := by decide +kernel
theorem dL_law_1090 : decode cL_law 1090 = .ok (.aload_n 1, 1) := by decide +kernel
theorem dL_law_1091 : decode cL_law 1091 = .ok (.invokevirtual 139, 3) := by decide +kernel
theorem dL_law_1094 : decode cL_law 1094 = .ok (.aload_n 2, 1) := by decide +kernel
theorem dL_law_1095 : decode cL_law 1095 = .ok (.invokevirtual 142, 3) := by decide +kernel
theorem dL_law_1098 : decode cL_law 1098 = .ok (.if_icmp .eq 385, 3) := by decide +kernel
theorem dL_law_1103 : decode cL_law 1103 = .ok (.aload_n 1, 1) := by decide +kernel
theorem dL_law_1104 : decode cL_law 1104 = .ok (.aload_n 0, 1) := by decide +kernel
theorem dL_law_1105 : decode cL_law 1105 = .ok (.iload_n 3, 1) := by decide +kernel
theorem dL_law_1106 : decode cL_law 1106 = .ok (.iconst 1, 1) := by decide +kernel
theorem dL_law_1107 : decode cL_law 1107 = .ok (.iadd, 1) := by decide +kernel
theorem dL_law_1108 : decode cL_law 1108 = .ok (.iaload, 1) := by decide +kernel
theorem dL_law_1109 : decode cL_law 1109 = .ok (.aload_n 0, 1) := by decide +kernel
theorem dL_law_1110 : decode cL_law 1110 = .ok (.iload_n 3, 1) := by decide +kernel
theorem dL_law_1111 : decode cL_law 1111 = .ok (.iconst 2, 1) := by decide +kernel
theorem dL_law_1112 : decode cL_law 1112 = .ok (.iadd, 1) := by decide +kernel
theorem dL_law_1113 : decode cL_law 1113 = .ok (.iaload, 1) := by decide +kernel
theorem dL_law_1114 : decode cL_law 1114 = .ok (.invokevirtual 143, 3) := by decide +kernel
theorem dL_law_1117 : decode cL_law 1117 = .ok (.aload_n 2, 1) := by decide +kernel
theorem dL_law_1118 : decode cL_law 1118 = .ok (.aload_n 0, 1) := by decide +kernel
theorem dL_law_1119 : decode cL_law 1119 = .ok (.iload_n 3, 1) := by decide +kernel
theorem dL_law_1120 : decode cL_law 1120 = .ok (.iconst 1, 1) := by decide +kernel
theorem dL_law_1121 : decode cL_law 1121 = .ok (.iadd, 1) := by decide +kernel
theorem dL_law_1122 : decode cL_law 1122 = .ok (.iaload, 1) := by decide +kernel
theorem dL_law_1123 : decode cL_law 1123 = .ok (.aload_n 0, 1) := by decide +kernel
theorem dL_law_1124 : decode cL_law 1124 = .ok (.iload_n 3, 1) := by decide +kernel
theorem dL_law_1125 : decode cL_law 1125 = .ok (.iconst 2, 1) := by decide +kernel
theorem dL_law_1126 : decode cL_law 1126 = .ok (.iadd, 1) := by decide +kernel
theorem dL_law_1127 : decode cL_law 1127 = .ok (.iaload, 1) := by decide +kernel
theorem dL_law_1128 : decode cL_law 1128 = .ok (.invokevirtual 146, 3) := by decide +kernel
theorem dL_law_1131 : decode cL_law 1131 = .ok (.if_icmp .eq 352, 3) := by decide +kernel
theorem dL_law_1136 : decode cL_law 1136 = .ok (.aload_n 1, 1) := by decide +kernel
theorem dL_law_1137 : decode cL_law 1137 = .ok (.invokevirtual 147, 3) := by decide +kernel
theorem dL_law_1140 : decode cL_law 1140 = .ok (.aload_n 2, 1) := by decide +kernel
theorem dL_law_1141 : decode cL_law 1141 = .ok (.invokevirtual 150, 3) := by decide +kernel
theorem dL_law_1144 : decode cL_law 1144 = .ok (.if_icmp .eq 339, 3) := by decide +kernel
theorem dL_law_1149 : decode cL_law 1149 = .ok (.aload_n 1, 1) := by decide +kernel
theorem dL_law_1150 : decode cL_law 1150 = .ok (.invokevirtual 151, 3) := by decide +kernel
theorem dL_law_1153 : decode cL_law 1153 = .ok (.aload_n 2, 1) := by decide +kernel
theorem dL_law_1154 : decode cL_law 1154 = .ok (.invokevirtual 154, 3) := by decide +kernel
theorem dL_law_1157 : decode cL_law 1157 = .ok (.if_icmp .eq 326, 3) := by decide +kernel
theorem dL_law_1162 : decode cL_law 1162 = .ok (.aload_n 1, 1) := by decide +kernel
theorem dL_law_1163 : decode cL_law 1163 = .ok (.aload_n 0, 1) := by decide +kernel
theorem dL_law_1164 : decode cL_law 1164 = .ok (.iload_n 3, 1) := by decide +kernel
theorem dL_law_1165 : decode cL_law 1165 = .ok (.iconst 1, 1) := by decide +kernel
theorem dL_law_1166 : decode cL_law 1166 = .ok (.iadd, 1) := by decide +kernel
theorem dL_law_1167 : decode cL_law 1167 = .ok (.iaload, 1) := by decide +kernel
theorem dL_law_1168 : decode cL_law 1168 = .ok (.aload_n 0, 1) := by decide +kernel
theorem dL_law_1169 : decode cL_law 1169 = .ok (.iload_n 3, 1) := by decide +kernel
theorem dL_law_1170 : decode cL_law 1170 = .ok (.iconst 2, 1) := by decide +kernel
theorem dL_law_1171 : decode cL_law 1171 = .ok (.iadd, 1) := by decide +kernel
theorem dL_law_1172 : decode cL_law 1172 = .ok (.iaload, 1) := by decide +kernel
theorem dL_law_1173 : decode cL_law 1173 = .ok (.aload_n 0, 1) := by decide +kernel
theorem dL_law_1174 : decode cL_law 1174 = .ok (.iload_n 3, 1) := by decide +kernel
theorem dL_law_1175 : decode cL_law 1175 = .ok (.iconst 3, 1) := by decide +kernel
theorem dL_law_1176 : decode cL_law 1176 = .ok (.iadd, 1) := by decide +kernel
theorem dL_law_1177 : decode cL_law 1177 = .ok (.iaload, 1) := by decide +kernel
theorem dL_law_1178 : decode cL_law 1178 = .ok (.invokevirtual 155, 3) := by decide +kernel
theorem dL_law_1181 : decode cL_law 1181 = .ok (.aload_n 2, 1) := by decide +kernel
theorem dL_law_1182 : decode cL_law 1182 = .ok (.aload_n 0, 1) := by decide +kernel
theorem dL_law_1183 : decode cL_law 1183 = .ok (.iload_n 3, 1) := by decide +kernel
theorem dL_law_1184 : decode cL_law 1184 = .ok (.iconst 1, 1) := by decide +kernel
theorem dL_law_1185 : decode cL_law 1185 = .ok (.iadd, 1) := by decide +kernel
theorem dL_law_1186 : decode cL_law 1186 = .ok (.iaload, 1) := by decide +kernel
theorem dL_law_1187 : decode cL_law 1187 = .ok (.aload_n 0, 1) := by decide +kernel
theorem dL_law_1188 : decode cL_law 1188 = .ok (.iload_n 3, 1) := by decide +kernel
theorem dL_law_1189 : decode cL_law 1189 = .ok (.iconst 2, 1) := by decide +kernel
theorem dL_law_1190 : decode cL_law 1190 = .ok (.iadd, 1) := by decide +kernel
theorem dL_law_1191 : decode cL_law 1191 = .ok (.iaload, 1) := by decide +kernel
theorem dL_law_1192 : decode cL_law 1192 = .ok (.aload_n 0, 1) := by decide +kernel
theorem dL_law_1193 : decode cL_law 1193 = .ok (.iload_n 3, 1) := by decide +kernel
theorem dL_law_1194 : decode cL_law 1194 = .ok (.iconst 3, 1) := by decide +kernel
theorem dL_law_1195 : decode cL_law 1195 = .ok (.iadd, 1) := by decide +kernel
theorem dL_law_1196 : decode cL_law 1196 = .ok (.iaload, 1) := by decide +kernel
theorem dL_law_1197 : decode cL_law 1197 = .ok (.invokevirtual 158, 3) := by decide +kernel
theorem dL_law_1200 : decode cL_law 1200 = .ok (.if_icmp .eq 283, 3) := by decide +kernel
theorem dL_law_1205 : decode cL_law 1205 = .ok (.aload_n 1, 1) := by decide +kernel
theorem dL_law_1206 : decode cL_law 1206 = .ok (.aload_n 0, 1) := by decide +kernel
theorem dL_law_1207 : decode cL_law 1207 = .ok (.iload_n 3, 1) := by decide +kernel
theorem dL_law_1208 : decode cL_law 1208 = .ok (.iconst 1, 1) := by decide +kernel
theorem dL_law_1209 : decode cL_law 1209 = .ok (.iadd, 1) := by decide +kernel
theorem dL_law_1210 : decode cL_law 1210 = .ok (.iaload, 1) := by decide +kernel
theorem dL_law_1211 : decode cL_law 1211 = .ok (.aload_n 0, 1) := by decide +kernel
theorem dL_law_1212 : decode cL_law 1212 = .ok (.iload_n 3, 1) := by decide +kernel
theorem dL_law_1213 : decode cL_law 1213 = .ok (.iconst 2, 1) := by decide +kernel
theorem dL_law_1214 : decode cL_law 1214 = .ok (.iadd, 1) := by decide +kernel
theorem dL_law_1215 : decode cL_law 1215 = .ok (.iaload, 1) := by decide +kernel
theorem dL_law_1216 : decode cL_law 1216 = .ok (.aload_n 0, 1) := by decide +kernel
theorem dL_law_1217 : decode cL_law 1217 = .ok (.iload_n 3, 1) := by decide +kernel
theorem dL_law_1218 : decode cL_law 1218 = .ok (.iconst 3, 1) := by decide +kernel
theorem dL_law_1219 : decode cL_law 1219 = .ok (.iadd, 1) := by decide +kernel
theorem dL_law_1220 : decode cL_law 1220 = .ok (.iaload, 1) := by decide +kernel
theorem dL_law_1221 : decode cL_law 1221 = .ok (.i2l, 1) := by decide +kernel
theorem dL_law_1222 : decode cL_law 1222 = .ok (.bipush 32, 2) := by decide +kernel
theorem dL_law_1224 : decode cL_law 1224 = .ok (.lshl, 1) := by decide +kernel
theorem dL_law_1225 : decode cL_law 1225 = .ok (.aload_n 0, 1) := by decide +kernel
theorem dL_law_1226 : decode cL_law 1226 = .ok (.iload_n 3, 1) := by decide +kernel
theorem dL_law_1227 : decode cL_law 1227 = .ok (.iconst 4, 1) := by decide +kernel
theorem dL_law_1228 : decode cL_law 1228 = .ok (.iadd, 1) := by decide +kernel
theorem dL_law_1229 : decode cL_law 1229 = .ok (.iaload, 1) := by decide +kernel
theorem dL_law_1230 : decode cL_law 1230 = .ok (.i2l, 1) := by decide +kernel
theorem dL_law_1231 : decode cL_law 1231 = .ok (.ldc2_w 159, 3) := by decide +kernel
theorem dL_law_1234 : decode cL_law 1234 = .ok (.land, 1) := by decide +kernel
theorem dL_law_1235 : decode cL_law 1235 = .ok (.lor, 1) := by decide +kernel
theorem dL_law_1236 : decode cL_law 1236 = .ok (.invokevirtual 161, 3) := by decide +kernel
theorem dL_law_1239 : decode cL_law 1239 = .ok (.aload_n 2, 1) := by decide +kernel
theorem dL_law_1240 : decode cL_law 1240 = .ok (.aload_n 0, 1) := by decide +kernel
theorem dL_law_1241 : decode cL_law 1241 = .ok (.iload_n 3, 1) := by decide +kernel
theorem dL_law_1242 : decode cL_law 1242 = .ok (.iconst 1, 1) := by decide +kernel
theorem dL_law_1243 : decode cL_law 1243 = .ok (.iadd, 1) := by decide +kernel
theorem dL_law_1244 : decode cL_law 1244 = .ok (.iaload, 1) := by decide +kernel
theorem dL_law_1245 : decode cL_law 1245 = .ok (.aload_n 0, 1) := by decide +kernel
theorem dL_law_1246 : decode cL_law 1246 = .ok (.iload_n 3, 1) := by decide +kernel
theorem dL_law_1247 : decode cL_law 1247 = .ok (.iconst 2, 1) := by decide +kernel
theorem dL_law_1248 : decode cL_law 1248 = .ok (.iadd, 1) := by decide +kernel
theorem dL_law_1249 : decode cL_law 1249 = .ok (.iaload, 1) := by decide +kernel
theorem dL_law_1250 : decode cL_law 1250 = .ok (.aload_n 0, 1) := by decide +kernel
theorem dL_law_1251 : decode cL_law 1251 = .ok (.iload_n 3, 1) := by decide +kernel
theorem dL_law_1252 : decode cL_law 1252 = .ok (.iconst 3, 1) := by decide +kernel
theorem dL_law_1253 : decode cL_law 1253 = .ok (.iadd, 1) := by decide +kernel
theorem dL_law_1254 : decode cL_law 1254 = .ok (.iaload, 1) := by decide +kernel
theorem dL_law_1255 : decode cL_law 1255 = .ok (.i2l, 1) := by decide +kernel
theorem dL_law_1256 : decode cL_law 1256 = .ok (.bipush 32, 2) := by decide +kernel
theorem dL_law_1258 : decode cL_law 1258 = .ok (.lshl, 1) := by decide +kernel
theorem dL_law_1259 : decode cL_law 1259 = .ok (.aload_n 0, 1) := by decide +kernel
theorem dL_law_1260 : decode cL_law 1260 = .ok (.iload_n 3, 1) := by decide +kernel
theorem dL_law_1261 : decode cL_law 1261 = .ok (.iconst 4, 1) := by decide +kernel
theorem dL_law_1262 : decode cL_law 1262 = .ok (.iadd, 1) := by decide +kernel
theorem dL_law_1263 : decode cL_law 1263 = .ok (.iaload, 1) := by decide +kernel
theorem dL_law_1264 : decode cL_law 1264 = .ok (.i2l, 1) := by decide +kernel
theorem dL_law_1265 : decode cL_law 1265 = .ok (.ldc2_w 159, 3) := by decide +kernel
theorem dL_law_1268 : decode cL_law 1268 = .ok (.land, 1) := by decide +kernel
theorem dL_law_1269 : decode cL_law 1269 = .ok (.lor, 1) := by decide +kernel
theorem dL_law_1270 : decode cL_law 1270 = .ok (.invokevirtual 165, 3) := by decide +kernel
theorem dL_law_1273 : decode cL_law 1273 = .ok (.lcmp, 1) := by decide +kernel
theorem dL_law_1274 : decode cL_law 1274 = .ok (.ifCond .eq 209, 3) := by decide +kernel
theorem dL_law_1279 : decode cL_law 1279 = .ok (.aload_n 1, 1) := by decide +kernel
theorem dL_law_1280 : decode cL_law 1280 = .ok (.aload_n 0, 1) := by decide +kernel
theorem dL_law_1281 : decode cL_law 1281 = .ok (.iload_n 3, 1) := by decide +kernel
theorem dL_law_1282 : decode cL_law 1282 = .ok (.iconst 1, 1) := by decide +kernel
theorem dL_law_1283 : decode cL_law 1283 = .ok (.iadd, 1) := by decide +kernel
theorem dL_law_1284 : decode cL_law 1284 = .ok (.iaload, 1) := by decide +kernel
theorem dL_law_1285 : decode cL_law 1285 = .ok (.aload_n 0, 1) := by decide +kernel
theorem dL_law_1286 : decode cL_law 1286 = .ok (.iload_n 3, 1) := by decide +kernel
theorem dL_law_1287 : decode cL_law 1287 = .ok (.iconst 2, 1) := by decide +kernel
theorem dL_law_1288 : decode cL_law 1288 = .ok (.iadd, 1) := by decide +kernel
theorem dL_law_1289 : decode cL_law 1289 = .ok (.iaload, 1) := by decide +kernel
theorem dL_law_1290 : decode cL_law 1290 = .ok (.aload_n 0, 1) := by decide +kernel
theorem dL_law_1291 : decode cL_law 1291 = .ok (.iload_n 3, 1) := by decide +kernel
theorem dL_law_1292 : decode cL_law 1292 = .ok (.iconst 3, 1) := by decide +kernel
theorem dL_law_1293 : decode cL_law 1293 = .ok (.iadd, 1) := by decide +kernel
theorem dL_law_1294 : decode cL_law 1294 = .ok (.iaload, 1) := by decide +kernel
theorem dL_law_1295 : decode cL_law 1295 = .ok (.aload_n 0, 1) := by decide +kernel
theorem dL_law_1296 : decode cL_law 1296 = .ok (.iload_n 3, 1) := by decide +kernel
theorem dL_law_1297 : decode cL_law 1297 = .ok (.iconst 4, 1) := by decide +kernel
theorem dL_law_1298 : decode cL_law 1298 = .ok (.iadd, 1) := by decide +kernel
theorem dL_law_1299 : decode cL_law 1299 = .ok (.iaload, 1) := by decide +kernel
theorem dL_law_1300 : decode cL_law 1300 = .ok (.aload_n 0, 1) := by decide +kernel
theorem dL_law_1301 : decode cL_law 1301 = .ok (.iload_n 3, 1) := by decide +kernel
theorem dL_law_1302 : decode cL_law 1302 = .ok (.iconst 5, 1) := by decide +kernel
theorem dL_law_1303 : decode cL_law 1303 = .ok (.iadd, 1) := by decide +kernel
theorem dL_law_1304 : decode cL_law 1304 = .ok (.iaload, 1) := by decide +kernel
theorem dL_law_1305 : decode cL_law 1305 = .ok (.invokevirtual 166, 3) := by decide +kernel
theorem dL_law_1308 : decode cL_law 1308 = .ok (.aload_n 2, 1) := by decide +kernel
theorem dL_law_1309 : decode cL_law 1309 = .ok (.aload_n 0, 1) := by decide +kernel
theorem dL_law_1310 : decode cL_law 1310 = .ok (.iload_n 3, 1) := by decide +kernel
theorem dL_law_1311 : decode cL_law 1311 = .ok (.iconst 1, 1) := by decide +kernel
theorem dL_law_1312 : decode cL_law 1312 = .ok (.iadd, 1) := by decide +kernel
theorem dL_law_1313 : decode cL_law 1313 = .ok (.iaload, 1) := by decide +kernel
theorem dL_law_1314 : decode cL_law 1314 = .ok (.aload_n 0, 1) := by decide +kernel
theorem dL_law_1315 : decode cL_law 1315 = .ok (.iload_n 3, 1) := by decide +kernel
theorem dL_law_1316 : decode cL_law 1316 = .ok (.iconst 2, 1) := by decide +kernel
theorem dL_law_1317 : decode cL_law 1317 = .ok (.iadd, 1) := by decide +kernel
theorem dL_law_1318 : decode cL_law 1318 = .ok (.iaload, 1) := by decide +kernel
theorem dL_law_1319 : decode cL_law 1319 = .ok (.aload_n 0, 1) := by decide +kernel
theorem dL_law_1320 : decode cL_law 1320 = .ok (.iload_n 3, 1) := by decide +kernel
theorem dL_law_1321 : decode cL_law 1321 = .ok (.iconst 3, 1) := by decide +kernel
theorem dL_law_1322 : decode cL_law 1322 = .ok (.iadd, 1) := by decide +kernel
theorem dL_law_1323 : decode cL_law 1323 = .ok (.iaload, 1) := by decide +kernel
theorem dL_law_1324 : decode cL_law 1324 = .ok (.aload_n 0, 1) := by decide +kernel
theorem dL_law_1325 : decode cL_law 1325 = .ok (.iload_n 3, 1) := by decide +kernel
theorem dL_law_1326 : decode cL_law 1326 = .ok (.iconst 4, 1) := by decide +kernel
theorem dL_law_1327 : decode cL_law 1327 = .ok (.iadd, 1) := by decide +kernel
theorem dL_law_1328 : decode cL_law 1328 = .ok (.iaload, 1) := by decide +kernel
theorem dL_law_1329 : decode cL_law 1329 = .ok (.aload_n 0, 1) := by decide +kernel
theorem dL_law_1330 : decode cL_law 1330 = .ok (.iload_n 3, 1) := by decide +kernel
theorem dL_law_1331 : decode cL_law 1331 = .ok (.iconst 5, 1) := by decide +kernel
theorem dL_law_1332 : decode cL_law 1332 = .ok (.iadd, 1) := by decide +kernel
theorem dL_law_1333 : decode cL_law 1333 = .ok (.iaload, 1) := by decide +kernel
theorem dL_law_1334 : decode cL_law 1334 = .ok (.invokevirtual 170, 3) := by decide +kernel
theorem dL_law_1337 : decode cL_law 1337 = .ok (.if_icmp .eq 146, 3) := by decide +kernel
theorem dL_law_1342 : decode cL_law 1342 = .ok (.aload_n 1, 1) := by decide +kernel
theorem dL_law_1343 : decode cL_law 1343 = .ok (.aload_n 0, 1) := by decide +kernel
theorem dL_law_1344 : decode cL_law 1344 = .ok (.iload_n 3, 1) := by decide +kernel
theorem dL_law_1345 : decode cL_law 1345 = .ok (.iconst 1, 1) := by decide +kernel
theorem dL_law_1346 : decode cL_law 1346 = .ok (.iadd, 1) := by decide +kernel
theorem dL_law_1347 : decode cL_law 1347 = .ok (.iaload, 1) := by decide +kernel
theorem dL_law_1348 : decode cL_law 1348 = .ok (.aload_n 0, 1) := by decide +kernel
theorem dL_law_1349 : decode cL_law 1349 = .ok (.iload_n 3, 1) := by decide +kernel
theorem dL_law_1350 : decode cL_law 1350 = .ok (.iconst 2, 1) := by decide +kernel
theorem dL_law_1351 : decode cL_law 1351 = .ok (.iadd, 1) := by decide +kernel
theorem dL_law_1352 : decode cL_law 1352 = .ok (.iaload, 1) := by decide +kernel
theorem dL_law_1353 : decode cL_law 1353 = .ok (.invokevirtual 171, 3) := by decide +kernel
theorem dL_law_1356 : decode cL_law 1356 = .ok (.aload_n 2, 1) := by decide +kernel
theorem dL_law_1357 : decode cL_law 1357 = .ok (.aload_n 0, 1) := by decide +kernel
theorem dL_law_1358 : decode cL_law 1358 = .ok (.iload_n 3, 1) := by decide +kernel
theorem dL_law_1359 : decode cL_law 1359 = .ok (.iconst 1, 1) := by decide +kernel
theorem dL_law_1360 : decode cL_law 1360 = .ok (.iadd, 1) := by decide +kernel
theorem dL_law_1361 : decode cL_law 1361 = .ok (.iaload, 1) := by decide +kernel
theorem dL_law_1362 : decode cL_law 1362 = .ok (.aload_n 0, 1) := by decide +kernel
theorem dL_law_1363 : decode cL_law 1363 = .ok (.iload_n 3, 1) := by decide +kernel
theorem dL_law_1364 : decode cL_law 1364 = .ok (.iconst 2, 1) := by decide +kernel
theorem dL_law_1365 : decode cL_law 1365 = .ok (.iadd, 1) := by decide +kernel
theorem dL_law_1366 : decode cL_law 1366 = .ok (.iaload, 1) := by decide +kernel
theorem dL_law_1367 : decode cL_law 1367 = .ok (.invokevirtual 174, 3) := by decide +kernel
theorem dL_law_1370 : decode cL_law 1370 = .ok (.if_icmp .eq 113, 3) := by decide +kernel
theorem dL_law_1375 : decode cL_law 1375 = .ok (.aload_n 1, 1) := by decide +kernel
theorem dL_law_1376 : decode cL_law 1376 = .ok (.aload_n 0, 1) := by decide +kernel
theorem dL_law_1377 : decode cL_law 1377 = .ok (.iload_n 3, 1) := by decide +kernel
theorem dL_law_1378 : decode cL_law 1378 = .ok (.iconst 1, 1) := by decide +kernel
theorem dL_law_1379 : decode cL_law 1379 = .ok (.iadd, 1) := by decide +kernel
theorem dL_law_1380 : decode cL_law 1380 = .ok (.iaload, 1) := by decide +kernel
theorem dL_law_1381 : decode cL_law 1381 = .ok (.invokevirtual 175, 3) := by decide +kernel
theorem dL_law_1384 : decode cL_law 1384 = .ok (.aload_n 2, 1) := by decide +kernel
theorem dL_law_1385 : decode cL_law 1385 = .ok (.aload_n 0, 1) := by decide +kernel
theorem dL_law_1386 : decode cL_law 1386 = .ok (.iload_n 3, 1) := by decide +kernel
theorem dL_law_1387 : decode cL_law 1387 = .ok (.iconst 1, 1) := by decide +kernel
theorem dL_law_1388 : decode cL_law 1388 = .ok (.iadd, 1) := by decide +kernel
theorem dL_law_1389 : decode cL_law 1389 = .ok (.iaload, 1) := by decide +kernel
theorem dL_law_1390 : decode cL_law 1390 = .ok (.invokevirtual 178, 3) := by decide +kernel
theorem dL_law_1393 : decode cL_law 1393 = .ok (.if_icmp .eq 90, 3) := by decide +kernel
theorem dL_law_1398 : decode cL_law 1398 = .ok (.aload_n 1, 1) := by decide +kernel
theorem dL_law_1399 : decode cL_law 1399 = .ok (.invokevirtual 179, 3) := by decide +kernel
theorem dL_law_1402 : decode cL_law 1402 = .ok (.aload_n 2, 1) := by decide +kernel
theorem dL_law_1403 : decode cL_law 1403 = .ok (.invokevirtual 182, 3) := by decide +kernel
theorem dL_law_1406 : decode cL_law 1406 = .ok (.if_icmp .eq 77, 3) := by decide +kernel
theorem dL_law_1411 : decode cL_law 1411 = .ok (.aload_n 1, 1) := by decide +kernel
theorem dL_law_1412 : decode cL_law 1412 = .ok (.invokevirtual 183, 3) := by decide +kernel
theorem dL_law_1415 : decode cL_law 1415 = .ok (.aload_n 2, 1) := by decide +kernel
theorem dL_law_1416 : decode cL_law 1416 = .ok (.invokevirtual 186, 3) := by decide +kernel
theorem dL_law_1419 : decode cL_law 1419 = .ok (.if_icmp .eq 64, 3) := by decide +kernel
theorem dL_law_1424 : decode cL_law 1424 = .ok (.aload_n 1, 1) := by decide +kernel
theorem dL_law_1425 : decode cL_law 1425 = .ok (.invokevirtual 187, 3) := by decide +kernel
theorem dL_law_1428 : decode cL_law 1428 = .ok (.aload_n 2, 1) := by decide +kernel
theorem dL_law_1429 : decode cL_law 1429 = .ok (.invokevirtual 190, 3) := by decide +kernel
theorem dL_law_1432 : decode cL_law 1432 = .ok (.if_icmp .eq 51, 3) := by decide +kernel
theorem dL_law_1437 : decode cL_law 1437 = .ok (.aload_n 1, 1) := by decide +kernel
theorem dL_law_1438 : decode cL_law 1438 = .ok (.aload_n 0, 1) := by decide +kernel
theorem dL_law_1439 : decode cL_law 1439 = .ok (.iload_n 3, 1) := by decide +kernel
theorem dL_law_1440 : decode cL_law 1440 = .ok (.iconst 1, 1) := by decide +kernel
theorem dL_law_1441 : decode cL_law 1441 = .ok (.iadd, 1) := by decide +kernel
theorem dL_law_1442 : decode cL_law 1442 = .ok (.iaload, 1) := by decide +kernel
theorem dL_law_1443 : decode cL_law 1443 = .ok (.invokevirtual 191, 3) := by decide +kernel
theorem dL_law_1446 : decode cL_law 1446 = .ok (.aload_n 2, 1) := by decide +kernel
theorem dL_law_1447 : decode cL_law 1447 = .ok (.aload_n 0, 1) := by decide +kernel
theorem dL_law_1448 : decode cL_law 1448 = .ok (.iload_n 3, 1) := by decide +kernel
theorem dL_law_1449 : decode cL_law 1449 = .ok (.iconst 1, 1) := by decide +kernel
theorem dL_law_1450 : decode cL_law 1450 = .ok (.iadd, 1) := by decide +kernel
theorem dL_law_1451 : decode cL_law 1451 = .ok (.iaload, 1) := by decide +kernel
theorem dL_law_1452 : decode cL_law 1452 = .ok (.invokevirtual 194, 3) := by decide +kernel
theorem dL_law_1455 : decode cL_law 1455 = .ok (.if_icmp .eq 28, 3) := by decide +kernel
theorem dL_law_1460 : decode cL_law 1460 = .ok (.aload_n 1, 1) := by decide +kernel
theorem dL_law_1461 : decode cL_law 1461 = .ok (.aload_n 0, 1) := by decide +kernel
theorem dL_law_1462 : decode cL_law 1462 = .ok (.iload_n 3, 1) := by decide +kernel
theorem dL_law_1463 : decode cL_law 1463 = .ok (.iconst 1, 1) := by decide +kernel
theorem dL_law_1464 : decode cL_law 1464 = .ok (.iadd, 1) := by decide +kernel
theorem dL_law_1465 : decode cL_law 1465 = .ok (.iaload, 1) := by decide +kernel
theorem dL_law_1466 : decode cL_law 1466 = .ok (.invokevirtual 195, 3) := by decide +kernel
theorem dL_law_1469 : decode cL_law 1469 = .ok (.aload_n 2, 1) := by decide +kernel
theorem dL_law_1470 : decode cL_law 1470 = .ok (.aload_n 0, 1) := by decide +kernel
theorem dL_law_1471 : decode cL_law 1471 = .ok (.iload_n 3, 1) := by decide +kernel
theorem dL_law_1472 : decode cL_law 1472 = .ok (.iconst 1, 1) := by decide +kernel
theorem dL_law_1473 : decode cL_law 1473 = .ok (.iadd, 1) := by decide +kernel
theorem dL_law_1474 : decode cL_law 1474 = .ok (.iaload, 1) := by decide +kernel
theorem dL_law_1475 : decode cL_law 1475 = .ok (.invokevirtual 198, 3) := by decide +kernel
theorem dL_law_1478 : decode cL_law 1478 = .ok (.if_icmp .eq 5, 3) := by decide +kernel
theorem dL_law_1483 : decode cL_law 1483 = .ok (.iinc 3 6, 3) := by decide +kernel
theorem dL_law_1486 : decode cL_law 1486 = .ok (.goto (-1468), 3) := by decide +kernel
theorem dL_law_1489 : decode cL_law 1489 = .ok (.iconst 1, 1) := by decide +kernel
theorem dL_law_1490 : decode cL_law 1490 = .ok (.ireturn, 1) := by decide +kernel
theorem dX0_hasLoop_0 : decode cX0_hasLoop 0 = .ok (.iconst 0, 1) := by decide +kernel
theorem dX0_hasLoop_1 : decode cX0_hasLoop 1 = .ok (.istore_n 1, 1) := by decide +kernel
theorem dX0_hasLoop_2 : decode cX0_hasLoop 2 = .ok (.iload_n 1, 1) := by decide +kernel
theorem dX0_hasLoop_3 : decode cX0_hasLoop 3 = .ok (.aload_n 0, 1) := by decide +kernel
theorem dX0_hasLoop_4 : decode cX0_hasLoop 4 = .ok (.getfield 9, 3) := by decide +kernel
theorem dX0_hasLoop_7 : decode cX0_hasLoop 7 = .ok (.if_icmp .ge 20, 3) := by decide +kernel
theorem dX0_hasLoop_27 : decode cX0_hasLoop 27 = .ok (.iconst 0, 1) := by decide +kernel
theorem dX0_hasLoop_28 : decode cX0_hasLoop 28 = .ok (.ireturn, 1) := by decide +kernel
theorem dX0_homeOf_0 : decode cX0_homeOf 0 = .ok (.iconst (-1), 1) := by decide +kernel
theorem dX0_homeOf_1 : decode cX0_homeOf 1 = .ok (.istore_n 2, 1) := by decide +kernel
theorem dX0_homeOf_2 : decode cX0_homeOf 2 = .ok (.ldc 38, 2) := by decide +kernel
theorem dX0_homeOf_4 : decode cX0_homeOf 4 = .ok (.istore_n 3, 1) := by decide +kernel
theorem dX0_homeOf_5 : decode cX0_homeOf 5 = .ok (.iconst 0, 1) := by decide +kernel
theorem dX0_homeOf_6 : decode cX0_homeOf 6 = .ok (.istore 4, 2) := by decide +kernel
theorem dX0_homeOf_8 : decode cX0_homeOf 8 = .ok (.iload 4, 2) := by decide +kernel
theorem dX0_homeOf_10 : decode cX0_homeOf 10 = .ok (.aload_n 0, 1) := by decide +kernel
theorem dX0_homeOf_11 : decode cX0_homeOf 11 = .ok (.getfield 9, 3) := by decide +kernel
theorem dX0_homeOf_14 : decode cX0_homeOf 14 = .ok (.if_icmp .ge 30, 3) := by decide +kernel
theorem dX0_homeOf_44 : decode cX0_homeOf 44 = .ok (.iload_n 2, 1) := by decide +kernel
theorem dX0_homeOf_45 : decode cX0_homeOf 45 = .ok (.ireturn, 1) := by decide +kernel
theorem dX0_init_0 : decode cX0_init 0 = .ok (.aload_n 0, 1) := by decide +kernel
theorem dX0_init_1 : decode cX0_init 1 = .ok (.invokespecial 3, 3) := by decide +kernel
theorem dX0_init_4 : decode cX0_init 4 = .ok (.aload_n 0, 1) := by decide +kernel
theorem dX0_init_5 : decode cX0_init 5 = .ok (.iconst 0, 1) := by decide +kernel
theorem dX0_init_6 : decode cX0_init 6 = .ok (.putfield 9, 3) := by decide +kernel
theorem dX0_init_9 : decode cX0_init 9 = .ok (.aload_n 0, 1) := by decide +kernel
theorem dX0_init_10 : decode cX0_init 10 = .ok (.bipush 100, 2) := by decide +kernel
theorem dX0_init_12 : decode cX0_init 12 = .ok (.newarray .int, 2) := by decide +kernel
theorem dX0_init_14 : decode cX0_init 14 = .ok (.putfield 15, 3) := by decide +kernel
theorem dX0_init_17 : decode cX0_init 17 = .ok (.return_, 1) := by decide +kernel
theorem dX0_leastTrip_0 : decode cX0_leastTrip 0 = .ok (.aload_n 0, 1) := by decide +kernel
theorem dX0_leastTrip_1 : decode cX0_leastTrip 1 = .ok (.aload_n 1, 1) := by decide +kernel
theorem dX0_leastTrip_2 : decode cX0_leastTrip 2 = .ok (.invokevirtual 73, 3) := by decide +kernel
theorem dX0_leastTrip_5 : decode cX0_leastTrip 5 = .ok (.istore_n 2, 1) := by decide +kernel
theorem dX0_leastTrip_6 : decode cX0_leastTrip 6 = .ok (.iload_n 2, 1) := by decide +kernel
theorem dX0_leastTrip_7 : decode cX0_leastTrip 7 = .ok (.ifCond .ge 8, 3) := by decide +kernel
theorem dX0_leastTrip_10 : decode cX0_leastTrip 10 = .ok (.ldc 38, 2) := by decide +kernel
theorem dX0_leastTrip_12 : decode cX0_leastTrip 12 = .ok (.goto 9, 3) := by decide +kernel
theorem dX0_leastTrip_21 : decode cX0_leastTrip 21 = .ok (.ireturn, 1) := by decide +kernel
theorem dX0_loopSet_0 : decode cX0_loopSet 0 = .ok (.iconst 0, 1) := by decide +kernel
theorem dX0_loopSet_1 : decode cX0_loopSet 1 = .ok (.istore_n 1, 1) := by decide +kernel
theorem dX0_loopSet_2 : decode cX0_loopSet 2 = .ok (.iconst 0, 1) := by decide +kernel
theorem dX0_loopSet_3 : decode cX0_loopSet 3 = .ok (.istore_n 2, 1) := by decide +kernel
theorem dX0_loopSet_4 : decode cX0_loopSet 4 = .ok (.iload_n 2, 1) := by decide +kernel
theorem dX0_loopSet_5 : decode cX0_loopSet 5 = .ok (.aload_n 0, 1) := by decide +kernel
theorem dX0_loopSet_6 : decode cX0_loopSet 6 = .ok (.getfield 9, 3) := by decide +kernel
theorem dX0_loopSet_9 : decode cX0_loopSet 9 = .ok (.if_icmp .ge 49, 3) := by decide +kernel
theorem dX0_loopSet_58 : decode cX0_loopSet 58 = .ok (.iload_n 1, 1) := by decide +kernel
theorem dX0_loopSet_59 : decode cX0_loopSet 59 = .ok (.ireturn, 1) := by decide +kernel
theorem dX0_measure_0 : decode cX0_measure 0 = .ok (.aload_n 0, 1) := by decide +kernel
theorem dX0_measure_1 : decode cX0_measure 1 = .ok (.aload_n 1, 1) := by decide +kernel
theorem dX0_measure_2 : decode cX0_measure 2 = .ok (.getfield 19, 3) := by decide +kernel
theorem dX0_measure_5 : decode cX0_measure 5 = .ok (.putfield 9, 3) := by decide +kernel
theorem dX0_measure_8 : decode cX0_measure 8 = .ok (.iconst 0, 1) := by decide +kernel
theorem dX0_measure_9 : decode cX0_measure 9 = .ok (.istore_n 2, 1) := by decide +kernel
theorem dX0_measure_10 : decode cX0_measure 10 = .ok (.iload_n 2, 1) := by decide +kernel
theorem dX0_measure_11 : decode cX0_measure 11 = .ok (.aload_n 0, 1) := by decide +kernel
theorem dX0_measure_12 : decode cX0_measure 12 = .ok (.getfield 9, 3) := by decide +kernel
theorem dX0_measure_15 : decode cX0_measure 15 = .ok (.if_icmp .ge 51, 3) := by decide +kernel
theorem dX0_measure_66 : decode cX0_measure 66 = .ok (.iconst 0, 1) := by decide +kernel
theorem dX0_measure_67 : decode cX0_measure 67 = .ok (.istore_n 2, 1) := by decide +kernel
theorem dX0_measure_68 : decode cX0_measure 68 = .ok (.iload_n 2, 1) := by decide +kernel
theorem dX0_measure_69 : decode cX0_measure 69 = .ok (.aload_n 0, 1) := by decide +kernel
theorem dX0_measure_70 : decode cX0_measure 70 = .ok (.getfield 9, 3) := by decide +kernel
theorem dX0_measure_73 : decode cX0_measure 73 = .ok (.if_icmp .ge 14, 3) := by decide +kernel
theorem dX0_measure_87 : decode cX0_measure 87 = .ok (.return_, 1) := by decide +kernel
theorem dX1_addPlace_0 : decode cX1_addPlace 0 = .ok (.aload_n 0, 1) := by decide +kernel
theorem dX1_addPlace_1 : decode cX1_addPlace 1 = .ok (.getfield 9, 3) := by decide +kernel
theorem dX1_addPlace_4 : decode cX1_addPlace 4 = .ok (.istore_n 2, 1) := by decide +kernel
theorem dX1_addPlace_5 : decode cX1_addPlace 5 = .ok (.aload_n 0, 1) := by decide +kernel
theorem dX1_addPlace_6 : decode cX1_addPlace 6 = .ok (.dup, 1) := by decide +kernel
theorem dX1_addPlace_7 : decode cX1_addPlace 7 = .ok (.getfield 9, 3) := by decide +kernel
theorem dX1_addPlace_10 : decode cX1_addPlace 10 = .ok (.iconst 1, 1) := by decide +kernel
theorem dX1_addPlace_11 : decode cX1_addPlace 11 = .ok (.iadd, 1) := by decide +kernel
theorem dX1_addPlace_12 : decode cX1_addPlace 12 = .ok (.putfield 9, 3) := by decide +kernel
theorem dX1_addPlace_15 : decode cX1_addPlace 15 = .ok (.aload_n 0, 1) := by decide +kernel
theorem dX1_addPlace_16 : decode cX1_addPlace 16 = .ok (.getfield 15, 3) := by decide +kernel
theorem dX1_addPlace_19 : decode cX1_addPlace 19 = .ok (.iload_n 2, 1) := by decide +kernel
theorem dX1_addPlace_20 : decode cX1_addPlace 20 = .ok (.iload_n 1, 1) := by decide +kernel
theorem dX1_addPlace_21 : decode cX1_addPlace 21 = .ok (.iastore, 1) := by decide +kernel
theorem dX1_addPlace_22 : decode cX1_addPlace 22 = .ok (.iload_n 2, 1) := by decide +kernel
theorem dX1_addPlace_23 : decode cX1_addPlace 23 = .ok (.ireturn, 1) := by decide +kernel
theorem dX1_allBetweenEnds_0 : decode cX1_allBetweenEnds 0 = .ok (.iconst 0, 1) := by decide +kernel
theorem dX1_allBetweenEnds_1 : decode cX1_allBetweenEnds 1 = .ok (.istore_n 1, 1) := by decide +kernel
theorem dX1_allBetweenEnds_2 : decode cX1_allBetweenEnds 2 = .ok (.iconst 0, 1) := by decide +kernel
theorem dX1_allBetweenEnds_3 : decode cX1_allBetweenEnds 3 = .ok (.istore_n 2, 1) := by decide +kernel
theorem dX1_allBetweenEnds_4 : decode cX1_allBetweenEnds 4 = .ok (.iload_n 2, 1) := by decide +kernel
theorem dX1_allBetweenEnds_5 : decode cX1_allBetweenEnds 5 = .ok (.bipush 100, 2) := by decide +kernel
theorem dX1_allBetweenEnds_7 : decode cX1_allBetweenEnds 7 = .ok (.if_icmp .ge 38, 3) := by decide +kernel
theorem dX1_allBetweenEnds_10 : decode cX1_allBetweenEnds 10 = .ok (.iload_n 1, 1) := by decide +kernel
theorem dX1_allBetweenEnds_11 : decode cX1_allBetweenEnds 11 = .ok (.aload_n 0, 1) := by decide +kernel
theorem dX1_allBetweenEnds_12 : decode cX1_allBetweenEnds 12 = .ok (.getfield 25, 3) := by decide +kernel
theorem dX1_allBetweenEnds_15 : decode cX1_allBetweenEnds 15 = .ok (.iload_n 2, 1) := by decide +kernel
theorem dX1_allBetweenEnds_16 : decode cX1_allBetweenEnds 16 = .ok (.iaload, 1) := by decide +kernel
theorem dX1_allBetweenEnds_17 : decode cX1_allBetweenEnds 17 = .ok (.ifCond .ne 7, 3) := by decide +kernel
theorem dX1_allBetweenEnds_20 : decode cX1_allBetweenEnds 20 = .ok (.iconst 0, 1) := by decide +kernel
theorem dX1_allBetweenEnds_21 : decode cX1_allBetweenEnds 21 = .ok (.goto 16, 3) := by decide +kernel
theorem dX1_allBetweenEnds_37 : decode cX1_allBetweenEnds 37 = .ok (.iadd, 1) := by decide +kernel
theorem dX1_allBetweenEnds_38 : decode cX1_allBetweenEnds 38 = .ok (.istore_n 1, 1) := by decide +kernel
theorem dX1_allBetweenEnds_39 : decode cX1_allBetweenEnds 39 = .ok (.iinc 2 1, 3) := by decide +kernel
theorem dX1_allBetweenEnds_42 : decode cX1_allBetweenEnds 42 = .ok (.goto (-38), 3) := by decide +kernel
theorem dX1_allBetweenEnds_45 : decode cX1_allBetweenEnds 45 = .ok (.iload_n 1, 1) := by decide +kernel
theorem dX1_allBetweenEnds_46 : decode cX1_allBetweenEnds 46 = .ok (.ireturn, 1) := by decide +kernel
theorem dX1_allErrands_0 : decode cX1_allErrands 0 = .ok (.iconst 0, 1) := by decide +kernel
theorem dX1_allErrands_1 : decode cX1_allErrands 1 = .ok (.istore_n 1, 1) := by decide +kernel
theorem dX1_allErrands_2 : decode cX1_allErrands 2 = .ok (.iconst 0, 1) := by decide +kernel
theorem dX1_allErrands_3 : decode cX1_allErrands 3 = .ok (.istore_n 2, 1) := by decide +kernel
theorem dX1_allErrands_4 : decode cX1_allErrands 4 = .ok (.iload_n 2, 1) := by decide +kernel
theorem dX1_allErrands_5 : decode cX1_allErrands 5 = .ok (.aload_n 0, 1) := by decide +kernel
theorem dX1_allErrands_6 : decode cX1_allErrands 6 = .ok (.getfield 9, 3) := by decide +kernel
theorem dX1_allErrands_9 : decode cX1_allErrands 9 = .ok (.if_icmp .ge 18, 3) := by decide +kernel
theorem dX1_allErrands_27 : decode cX1_allErrands 27 = .ok (.iload_n 1, 1) := by decide +kernel
theorem dX1_allErrands_28 : decode cX1_allErrands 28 = .ok (.ireturn, 1) := by decide +kernel
theorem dX1_areTwo_0 : decode cX1_areTwo 0 = .ok (.aload_n 0, 1) := by decide +kernel
theorem dX1_areTwo_1 : decode cX1_areTwo 1 = .ok (.iload_n 1, 1) := by decide +kernel
theorem dX1_areTwo_2 : decode cX1_areTwo 2 = .ok (.i2l, 1) := by decide +kernel
theorem dX1_areTwo_3 : decode cX1_areTwo 3 = .ok (.invokevirtual 57, 3) := by decide +kernel
theorem dX1_areTwo_6 : decode cX1_areTwo 6 = .ok (.ifCond .eq 21, 3) := by decide +kernel
theorem dX1_areTwo_27 : decode cX1_areTwo 27 = .ok (.iconst 0, 1) := by decide +kernel
theorem dX1_areTwo_28 : decode cX1_areTwo 28 = .ok (.ireturn, 1) := by decide +kernel
theorem dX1_become_0 : decode cX1_become 0 = .ok (.aload_n 0, 1) := by decide +kernel
theorem dX1_become_1 : decode cX1_become 1 = .ok (.aload_n 1, 1) := by decide +kernel
theorem dX1_become_2 : decode cX1_become 2 = .ok (.getfield 9, 3) := by decide +kernel
theorem dX1_become_5 : decode cX1_become 5 = .ok (.putfield 9, 3) := by decide +kernel
theorem dX1_become_8 : decode cX1_become 8 = .ok (.aload_n 1, 1) := by decide +kernel
theorem dX1_become_9 : decode cX1_become 9 = .ok (.getfield 15, 3) := by decide +kernel
theorem dX1_become_12 : decode cX1_become 12 = .ok (.iconst 0, 1) := by decide +kernel
theorem dX1_become_13 : decode cX1_become 13 = .ok (.aload_n 0, 1) := by decide +kernel
theorem dX1_become_14 : decode cX1_become 14 = .ok (.getfield 15, 3) := by decide +kernel
theorem dX1_become_17 : decode cX1_become 17 = .ok (.iconst 0, 1) := by decide +kernel
theorem dX1_become_18 : decode cX1_become 18 = .ok (.bipush 10, 2) := by decide +kernel
theorem dX1_become_20 : decode cX1_become 20 = .ok (.invokestatic 47, 3) := by decide +kernel
theorem dX1_become_23 : decode cX1_become 23 = .ok (.aload_n 1, 1) := by decide +kernel
theorem dX1_become_24 : decode cX1_become 24 = .ok (.getfield 19, 3) := by decide +kernel
theorem dX1_become_27 : decode cX1_become 27 = .ok (.iconst 0, 1) := by decide +kernel
theorem dX1_become_28 : decode cX1_become 28 = .ok (.aload_n 0, 1) := by decide +kernel
theorem dX1_become_29 : decode cX1_become 29 = .ok (.getfield 19, 3) := by decide +kernel
theorem dX1_become_32 : decode cX1_become 32 = .ok (.iconst 0, 1) := by decide +kernel
theorem dX1_become_33 : decode cX1_become 33 = .ok (.bipush 100, 2) := by decide +kernel
theorem dX1_become_35 : decode cX1_become 35 = .ok (.invokestatic 47, 3) := by decide +kernel
theorem dX1_become_38 : decode cX1_become 38 = .ok (.aload_n 1, 1) := by decide +kernel
theorem dX1_become_39 : decode cX1_become 39 = .ok (.getfield 22, 3) := by decide +kernel
theorem dX1_become_42 : decode cX1_become 42 = .ok (.iconst 0, 1) := by decide +kernel
theorem dX1_become_43 : decode cX1_become 43 = .ok (.aload_n 0, 1) := by decide +kernel
theorem dX1_become_44 : decode cX1_become 44 = .ok (.getfield 22, 3) := by decide +kernel
theorem dX1_become_47 : decode cX1_become 47 = .ok (.iconst 0, 1) := by decide +kernel
theorem dX1_become_48 : decode cX1_become 48 = .ok (.bipush 100, 2) := by decide +kernel
theorem dX1_become_50 : decode cX1_become 50 = .ok (.invokestatic 47, 3) := by decide +kernel
theorem dX1_become_53 : decode cX1_become 53 = .ok (.aload_n 1, 1) := by decide +kernel
theorem dX1_become_54 : decode cX1_become 54 = .ok (.getfield 25, 3) := by decide +kernel
theorem dX1_become_57 : decode cX1_become 57 = .ok (.iconst 0, 1) := by decide +kernel
theorem dX1_become_58 : decode cX1_become 58 = .ok (.aload_n 0, 1) := by decide +kernel
theorem dX1_become_59 : decode cX1_become 59 = .ok (.getfield 25, 3) := by decide +kernel
theorem dX1_become_62 : decode cX1_become 62 = .ok (.iconst 0, 1) := by decide +kernel
theorem dX1_become_63 : decode cX1_become 63 = .ok (.bipush 100, 2) := by decide +kernel
theorem dX1_become_65 : decode cX1_become 65 = .ok (.invokestatic 47, 3) := by decide +kernel
theorem dX1_become_68 : decode cX1_become 68 = .ok (.aload_n 0, 1) := by decide +kernel
theorem dX1_become_69 : decode cX1_become 69 = .ok (.getfield 31, 3) := by decide +kernel
theorem dX1_become_72 : decode cX1_become 72 = .ok (.aload_n 1, 1) := by decide +kernel
theorem dX1_become_73 : decode cX1_become 73 = .ok (.getfield 31, 3) := by decide +kernel
theorem dX1_become_76 : decode cX1_become 76 = .ok (.invokevirtual 53, 3) := by decide +kernel
theorem dX1_become_79 : decode cX1_become 79 = .ok (.aload_n 1, 1) := by decide +kernel
theorem dX1_become_80 : decode cX1_become 80 = .ok (.getfield 35, 3) := by decide +kernel
theorem dX1_become_83 : decode cX1_become 83 = .ok (.iconst 0, 1) := by decide +kernel
theorem dX1_become_84 : decode cX1_become 84 = .ok (.aload_n 0, 1) := by decide +kernel
theorem dX1_become_85 : decode cX1_become 85 = .ok (.getfield 35, 3) := by decide +kernel
theorem dX1_become_88 : decode cX1_become 88 = .ok (.iconst 0, 1) := by decide +kernel
theorem dX1_become_89 : decode cX1_become 89 = .ok (.bipush 8, 2) := by decide +kernel
theorem dX1_become_91 : decode cX1_become 91 = .ok (.invokestatic 47, 3) := by decide +kernel
theorem dX1_become_94 : decode cX1_become 94 = .ok (.aload_n 0, 1) := by decide +kernel
theorem dX1_become_95 : decode cX1_become 95 = .ok (.getfield 38, 3) := by decide +kernel
theorem dX1_become_98 : decode cX1_become 98 = .ok (.aload_n 1, 1) := by decide +kernel
theorem dX1_become_99 : decode cX1_become 99 = .ok (.getfield 38, 3) := by decide +kernel
theorem dX1_become_102 : decode cX1_become 102 = .ok (.invokevirtual 53, 3) := by decide +kernel
theorem dX1_become_105 : decode cX1_become 105 = .ok (.aload_n 1, 1) := by decide +kernel
theorem dX1_become_106 : decode cX1_become 106 = .ok (.getfield 41, 3) := by decide +kernel
theorem dX1_become_109 : decode cX1_become 109 = .ok (.iconst 0, 1) := by decide +kernel
theorem dX1_become_110 : decode cX1_become 110 = .ok (.aload_n 0, 1) := by decide +kernel
theorem dX1_become_111 : decode cX1_become 111 = .ok (.getfield 41, 3) := by decide +kernel
theorem dX1_become_114 : decode cX1_become 114 = .ok (.iconst 0, 1) := by decide +kernel
theorem dX1_become_115 : decode cX1_become 115 = .ok (.bipush 8, 2) := by decide +kernel
theorem dX1_become_117 : decode cX1_become 117 = .ok (.invokestatic 47, 3) := by decide +kernel
theorem dX1_become_120 : decode cX1_become 120 = .ok (.aload_n 1, 1) := by decide +kernel
theorem dX1_become_121 : decode cX1_become 121 = .ok (.getfield 44, 3) := by decide +kernel
theorem dX1_become_124 : decode cX1_become 124 = .ok (.iconst 0, 1) := by decide +kernel
theorem dX1_become_125 : decode cX1_become 125 = .ok (.aload_n 0, 1) := by decide +kernel
theorem dX1_become_126 : decode cX1_become 126 = .ok (.getfield 44, 3) := by decide +kernel
theorem dX1_become_129 : decode cX1_become 129 = .ok (.iconst 0, 1) := by decide +kernel
theorem dX1_become_130 : decode cX1_become 130 = .ok (.bipush 8, 2) := by decide +kernel
theorem dX1_become_132 : decode cX1_become 132 = .ok (.invokestatic 47, 3) := by decide +kernel
theorem dX1_become_135 : decode cX1_become 135 = .ok (.return_, 1) := by decide +kernel
theorem dX1_countUnknown_0 : decode cX1_countUnknown 0 = .ok (.iconst 0, 1) := by decide +kernel
theorem dX1_countUnknown_1 : decode cX1_countUnknown 1 = .ok (.istore_n 1, 1) := by decide +kernel
theorem dX1_countUnknown_2 : decode cX1_countUnknown 2 = .ok (.iconst 0, 1) := by decide +kernel
theorem dX1_countUnknown_3 : decode cX1_countUnknown 3 = .ok (.istore_n 2, 1) := by decide +kernel
theorem dX1_countUnknown_4 : decode cX1_countUnknown 4 = .ok (.iload_n 2, 1) := by decide +kernel
theorem dX1_countUnknown_5 : decode cX1_countUnknown 5 = .ok (.bipush 100, 2) := by decide +kernel
theorem dX1_countUnknown_7 : decode cX1_countUnknown 7 = .ok (.if_icmp .ge 41, 3) := by decide +kernel
theorem dX1_countUnknown_10 : decode cX1_countUnknown 10 = .ok (.iload_n 1, 1) := by decide +kernel
theorem dX1_countUnknown_11 : decode cX1_countUnknown 11 = .ok (.aload_n 0, 1) := by decide +kernel
theorem dX1_countUnknown_12 : decode cX1_countUnknown 12 = .ok (.getfield 25, 3) := by decide +kernel
theorem dX1_countUnknown_15 : decode cX1_countUnknown 15 = .ok (.iload_n 2, 1) := by decide +kernel
theorem dX1_countUnknown_16 : decode cX1_countUnknown 16 = .ok (.iaload, 1) := by decide +kernel
theorem dX1_countUnknown_17 : decode cX1_countUnknown 17 = .ok (.ifCond .eq 22, 3) := by decide +kernel
theorem dX1_countUnknown_39 : decode cX1_countUnknown 39 = .ok (.iconst 0, 1) := by decide +kernel
theorem dX1_countUnknown_40 : decode cX1_countUnknown 40 = .ok (.iadd, 1) := by decide +kernel
theorem dX1_countUnknown_41 : decode cX1_countUnknown 41 = .ok (.istore_n 1, 1) := by decide +kernel
theorem dX1_countUnknown_42 : decode cX1_countUnknown 42 = .ok (.iinc 2 1, 3) := by decide +kernel
theorem dX1_countUnknown_45 : decode cX1_countUnknown 45 = .ok (.goto (-41), 3) := by decide +kernel
theorem dX1_countUnknown_48 : decode cX1_countUnknown 48 = .ok (.iload_n 1, 1) := by decide +kernel
theorem dX1_countUnknown_49 : decode cX1_countUnknown 49 = .ok (.ireturn, 1) := by decide +kernel
theorem dX1_countWays_0 : decode cX1_countWays 0 = .ok (.iconst 0, 1) := by decide +kernel
theorem dX1_countWays_1 : decode cX1_countWays 1 = .ok (.istore_n 1, 1) := by decide +kernel
theorem dX1_countWays_2 : decode cX1_countWays 2 = .ok (.iconst 0, 1) := by decide +kernel
theorem dX1_countWays_3 : decode cX1_countWays 3 = .ok (.istore_n 2, 1) := by decide +kernel
theorem dX1_countWays_4 : decode cX1_countWays 4 = .ok (.iload_n 2, 1) := by decide +kernel
theorem dX1_countWays_5 : decode cX1_countWays 5 = .ok (.bipush 100, 2) := by decide +kernel
theorem dX1_countWays_7 : decode cX1_countWays 7 = .ok (.if_icmp .ge 26, 3) := by decide +kernel
theorem dX1_countWays_10 : decode cX1_countWays 10 = .ok (.iload_n 1, 1) := by decide +kernel
theorem dX1_countWays_11 : decode cX1_countWays 11 = .ok (.aload_n 0, 1) := by decide +kernel
theorem dX1_countWays_12 : decode cX1_countWays 12 = .ok (.getfield 25, 3) := by decide +kernel
theorem dX1_countWays_15 : decode cX1_countWays 15 = .ok (.iload_n 2, 1) := by decide +kernel
theorem dX1_countWays_16 : decode cX1_countWays 16 = .ok (.iaload, 1) := by decide +kernel
theorem dX1_countWays_17 : decode cX1_countWays 17 = .ok (.ifCond .ne 7, 3) := by decide +kernel
theorem dX1_countWays_20 : decode cX1_countWays 20 = .ok (.iconst 0, 1) := by decide +kernel
theorem dX1_countWays_21 : decode cX1_countWays 21 = .ok (.goto 4, 3) := by decide +kernel
theorem dX1_countWays_25 : decode cX1_countWays 25 = .ok (.iadd, 1) := by decide +kernel
theorem dX1_countWays_26 : decode cX1_countWays 26 = .ok (.istore_n 1, 1) := by decide +kernel
theorem dX1_countWays_27 : decode cX1_countWays 27 = .ok (.iinc 2 1, 3) := by decide +kernel
theorem dX1_countWays_30 : decode cX1_countWays 30 = .ok (.goto (-26), 3) := by decide +kernel
theorem dX1_countWays_33 : decode cX1_countWays 33 = .ok (.iload_n 1, 1) := by decide +kernel
theorem dX1_countWays_34 : decode cX1_countWays 34 = .ok (.ireturn, 1) := by decide +kernel
theorem dX1_hollowSet_0 : decode cX1_hollowSet 0 = .ok (.iconst 0, 1) := by decide +kernel
theorem dX1_hollowSet_1 : decode cX1_hollowSet 1 = .ok (.istore_n 1, 1) := by decide +kernel
theorem dX1_hollowSet_2 : decode cX1_hollowSet 2 = .ok (.iconst 0, 1) := by decide +kernel
theorem dX1_hollowSet_3 : decode cX1_hollowSet 3 = .ok (.istore_n 2, 1) := by decide +kernel
theorem dX1_hollowSet_4 : decode cX1_hollowSet 4 = .ok (.iload_n 2, 1) := by decide +kernel
theorem dX1_hollowSet_5 : decode cX1_hollowSet 5 = .ok (.aload_n 0, 1) := by decide +kernel
theorem dX1_hollowSet_6 : decode cX1_hollowSet 6 = .ok (.getfield 9, 3) := by decide +kernel
theorem dX1_hollowSet_9 : decode cX1_hollowSet 9 = .ok (.if_icmp .ge 53, 3) := by decide +kernel
theorem dX1_hollowSet_62 : decode cX1_hollowSet 62 = .ok (.iload_n 1, 1) := by decide +kernel
theorem dX1_hollowSet_63 : decode cX1_hollowSet 63 = .ok (.ireturn, 1) := by decide +kernel
theorem dX1_init_0 : decode cX1_init 0 = .ok (.aload_n 0, 1) := by decide +kernel
theorem dX1_init_1 : decode cX1_init 1 = .ok (.invokespecial 3, 3) := by decide +kernel
theorem dX1_init_4 : decode cX1_init 4 = .ok (.aload_n 0, 1) := by decide +kernel
theorem dX1_init_5 : decode cX1_init 5 = .ok (.iconst 0, 1) := by decide +kernel
theorem dX1_init_6 : decode cX1_init 6 = .ok (.putfield 9, 3) := by decide +kernel
theorem dX1_init_9 : decode cX1_init 9 = .ok (.aload_n 0, 1) := by decide +kernel
theorem dX1_init_10 : decode cX1_init 10 = .ok (.bipush 10, 2) := by decide +kernel
theorem dX1_init_12 : decode cX1_init 12 = .ok (.newarray .int, 2) := by decide +kernel
theorem dX1_init_14 : decode cX1_init 14 = .ok (.putfield 15, 3) := by decide +kernel
theorem dX1_init_17 : decode cX1_init 17 = .ok (.aload_n 0, 1) := by decide +kernel
theorem dX1_init_18 : decode cX1_init 18 = .ok (.bipush 100, 2) := by decide +kernel
theorem dX1_init_20 : decode cX1_init 20 = .ok (.newarray .int, 2) := by decide +kernel
theorem dX1_init_22 : decode cX1_init 22 = .ok (.putfield 19, 3) := by decide +kernel
theorem dX1_init_25 : decode cX1_init 25 = .ok (.aload_n 0, 1) := by decide +kernel
theorem dX1_init_26 : decode cX1_init 26 = .ok (.bipush 100, 2) := by decide +kernel
theorem dX1_init_28 : decode cX1_init 28 = .ok (.newarray .int, 2) := by decide +kernel
theorem dX1_init_30 : decode cX1_init 30 = .ok (.putfield 22, 3) := by decide +kernel
theorem dX1_init_33 : decode cX1_init 33 = .ok (.aload_n 0, 1) := by decide +kernel
theorem dX1_init_34 : decode cX1_init 34 = .ok (.bipush 100, 2) := by decide +kernel
theorem dX1_init_36 : decode cX1_init 36 = .ok (.newarray .int, 2) := by decide +kernel
theorem dX1_init_38 : decode cX1_init 38 = .ok (.putfield 25, 3) := by decide +kernel
theorem dX1_init_41 : decode cX1_init 41 = .ok (.aload_n 0, 1) := by decide +kernel
theorem dX1_init_42 : decode cX1_init 42 = .ok (.new 28, 3) := by decide +kernel
theorem dX1_init_45 : decode cX1_init 45 = .ok (.dup, 1) := by decide +kernel
theorem dX1_init_46 : decode cX1_init 46 = .ok (.invokespecial 30, 3) := by decide +kernel
theorem dX1_init_49 : decode cX1_init 49 = .ok (.putfield 31, 3) := by decide +kernel
theorem dX1_init_52 : decode cX1_init 52 = .ok (.aload_n 0, 1) := by decide +kernel
theorem dX1_init_53 : decode cX1_init 53 = .ok (.bipush 8, 2) := by decide +kernel
theorem dX1_init_55 : decode cX1_init 55 = .ok (.newarray .int, 2) := by decide +kernel
theorem dX1_init_57 : decode cX1_init 57 = .ok (.putfield 35, 3) := by decide +kernel
theorem dX1_init_60 : decode cX1_init 60 = .ok (.aload_n 0, 1) := by decide +kernel
theorem dX1_init_61 : decode cX1_init 61 = .ok (.new 28, 3) := by decide +kernel
theorem dX1_init_64 : decode cX1_init 64 = .ok (.dup, 1) := by decide +kernel
theorem dX1_init_65 : decode cX1_init 65 = .ok (.invokespecial 30, 3) := by decide +kernel
theorem dX1_init_68 : decode cX1_init 68 = .ok (.putfield 38, 3) := by decide +kernel
theorem dX1_init_71 : decode cX1_init 71 = .ok (.aload_n 0, 1) := by decide +kernel
theorem dX1_init_72 : decode cX1_init 72 = .ok (.bipush 8, 2) := by decide +kernel
theorem dX1_init_74 : decode cX1_init 74 = .ok (.newarray .int, 2) := by decide +kernel
theorem dX1_init_76 : decode cX1_init 76 = .ok (.putfield 41, 3) := by decide +kernel
theorem dX1_init_79 : decode cX1_init 79 = .ok (.aload_n 0, 1) := by decide +kernel
theorem dX1_init_80 : decode cX1_init 80 = .ok (.bipush 8, 2) := by decide +kernel
theorem dX1_init_82 : decode cX1_init 82 = .ok (.newarray .int, 2) := by decide +kernel
theorem dX1_init_84 : decode cX1_init 84 = .ok (.putfield 44, 3) := by decide +kernel
theorem dX1_init_87 : decode cX1_init 87 = .ok (.return_, 1) := by decide +kernel
theorem dX1_isPlace_0 : decode cX1_isPlace 0 = .ok (.lload_n 1, 1) := by decide +kernel
theorem dX1_isPlace_1 : decode cX1_isPlace 1 = .ok (.lconst 0, 1) := by decide +kernel
theorem dX1_isPlace_2 : decode cX1_isPlace 2 = .ok (.lcmp, 1) := by decide +kernel
theorem dX1_isPlace_3 : decode cX1_isPlace 3 = .ok (.ifCond .lt 17, 3) := by decide +kernel
theorem dX1_isPlace_6 : decode cX1_isPlace 6 = .ok (.lload_n 1, 1) := by decide +kernel
theorem dX1_isPlace_7 : decode cX1_isPlace 7 = .ok (.aload_n 0, 1) := by decide +kernel
theorem dX1_isPlace_8 : decode cX1_isPlace 8 = .ok (.getfield 9, 3) := by decide +kernel
theorem dX1_isPlace_11 : decode cX1_isPlace 11 = .ok (.i2l, 1) := by decide +kernel
theorem dX1_isPlace_12 : decode cX1_isPlace 12 = .ok (.lcmp, 1) := by decide +kernel
theorem dX1_isPlace_13 : decode cX1_isPlace 13 = .ok (.ifCond .ge 7, 3) := by decide +kernel
theorem dX1_isPlace_20 : decode cX1_isPlace 20 = .ok (.iconst 0, 1) := by decide +kernel
theorem dX1_isPlace_21 : decode cX1_isPlace 21 = .ok (.ireturn, 1) := by decide +kernel
theorem dX1_widestWay_0 : decode cX1_widestWay 0 = .ok (.iconst (-1), 1) := by decide +kernel
theorem dX1_widestWay_1 : decode cX1_widestWay 1 = .ok (.istore_n 1, 1) := by decide +kernel
theorem dX1_widestWay_2 : decode cX1_widestWay 2 = .ok (.iconst 0, 1) := by decide +kernel
theorem dX1_widestWay_3 : decode cX1_widestWay 3 = .ok (.istore_n 2, 1) := by decide +kernel
theorem dX1_widestWay_4 : decode cX1_widestWay 4 = .ok (.iconst 0, 1) := by decide +kernel
theorem dX1_widestWay_5 : decode cX1_widestWay 5 = .ok (.istore_n 3, 1) := by decide +kernel
theorem dX1_widestWay_6 : decode cX1_widestWay 6 = .ok (.iload_n 3, 1) := by decide +kernel
theorem dX1_widestWay_7 : decode cX1_widestWay 7 = .ok (.bipush 100, 2) := by decide +kernel
theorem dX1_widestWay_9 : decode cX1_widestWay 9 = .ok (.if_icmp .ge 52, 3) := by decide +kernel
theorem dX1_widestWay_12 : decode cX1_widestWay 12 = .ok (.aload_n 0, 1) := by decide +kernel
theorem dX1_widestWay_13 : decode cX1_widestWay 13 = .ok (.getfield 25, 3) := by decide +kernel
theorem dX1_widestWay_16 : decode cX1_widestWay 16 = .ok (.iload_n 3, 1) := by decide +kernel
theorem dX1_widestWay_17 : decode cX1_widestWay 17 = .ok (.iaload, 1) := by decide +kernel
theorem dX1_widestWay_18 : decode cX1_widestWay 18 = .ok (.iconst 1, 1) := by decide +kernel
theorem dX1_widestWay_19 : decode cX1_widestWay 19 = .ok (.if_icmp .ne 36, 3) := by decide +kernel
theorem dX1_widestWay_55 : decode cX1_widestWay 55 = .ok (.iinc 3 1, 3) := by decide +kernel
theorem dX1_widestWay_58 : decode cX1_widestWay 58 = .ok (.goto (-52), 3) := by decide +kernel
theorem dX1_widestWay_61 : decode cX1_widestWay 61 = .ok (.iload_n 1, 1) := by decide +kernel
theorem dX1_widestWay_62 : decode cX1_widestWay 62 = .ok (.ireturn, 1) := by decide +kernel
theorem dX2_init_0 : decode cX2_init 0 = .ok (.aload_n 0, 1) := by decide +kernel
theorem dX2_init_1 : decode cX2_init 1 = .ok (.invokespecial 1, 3) := by decide +kernel
theorem dX2_init_4 : decode cX2_init 4 = .ok (.aload_n 0, 1) := by decide +kernel
theorem dX2_init_5 : decode cX2_init 5 = .ok (.iconst 0, 1) := by decide +kernel
theorem dX2_init_6 : decode cX2_init 6 = .ok (.putfield 7, 3) := by decide +kernel
theorem dX2_init_9 : decode cX2_init 9 = .ok (.aload_n 0, 1) := by decide +kernel
theorem dX2_init_10 : decode cX2_init 10 = .ok (.iconst 0, 1) := by decide +kernel
theorem dX2_init_11 : decode cX2_init 11 = .ok (.putfield 13, 3) := by decide +kernel
theorem dX2_init_14 : decode cX2_init 14 = .ok (.return_, 1) := by decide +kernel
theorem dX2_learnIn_0 : decode cX2_learnIn 0 = .ok (.aload_n 0, 1) := by decide +kernel
theorem dX2_learnIn_1 : decode cX2_learnIn 1 = .ok (.iconst 0, 1) := by decide +kernel
theorem dX2_learnIn_2 : decode cX2_learnIn 2 = .ok (.putfield 7, 3) := by decide +kernel
theorem dX2_learnIn_5 : decode cX2_learnIn 5 = .ok (.iconst 0, 1) := by decide +kernel
theorem dX2_learnIn_6 : decode cX2_learnIn 6 = .ok (.istore_n 2, 1) := by decide +kernel
theorem dX2_learnIn_7 : decode cX2_learnIn 7 = .ok (.iconst 0, 1) := by decide +kernel
theorem dX2_learnIn_8 : decode cX2_learnIn 8 = .ok (.istore_n 3, 1) := by decide +kernel
theorem dX2_learnIn_9 : decode cX2_learnIn 9 = .ok (.iload_n 3, 1) := by decide +kernel
theorem dX2_learnIn_10 : decode cX2_learnIn 10 = .ok (.bipush 50, 2) := by decide +kernel
theorem dX2_learnIn_12 : decode cX2_learnIn 12 = .ok (.if_icmp .ge 70, 3) := by decide +kernel
theorem dX2_learnIn_15 : decode cX2_learnIn 15 = .ok (.aload_n 0, 1) := by decide +kernel
theorem dX2_learnIn_16 : decode cX2_learnIn 16 = .ok (.iconst 0, 1) := by decide +kernel
theorem dX2_learnIn_17 : decode cX2_learnIn 17 = .ok (.putfield 13, 3) := by decide +kernel
theorem dX2_learnIn_20 : decode cX2_learnIn 20 = .ok (.iconst 0, 1) := by decide +kernel
theorem dX2_learnIn_21 : decode cX2_learnIn 21 = .ok (.istore 4, 2) := by decide +kernel
theorem dX2_learnIn_23 : decode cX2_learnIn 23 = .ok (.iload 4, 2) := by decide +kernel
theorem dX2_learnIn_25 : decode cX2_learnIn 25 = .ok (.aload_n 1, 1) := by decide +kernel
theorem dX2_learnIn_26 : decode cX2_learnIn 26 = .ok (.getfield 17, 3) := by decide +kernel
theorem dX2_learnIn_29 : decode cX2_learnIn 29 = .ok (.getfield 23, 3) := by decide +kernel
theorem dX2_learnIn_32 : decode cX2_learnIn 32 = .ok (.if_icmp .ge 32, 3) := by decide +kernel
theorem dX2_learnIn_64 : decode cX2_learnIn 64 = .ok (.aload_n 0, 1) := by decide +kernel
theorem dX2_learnIn_65 : decode cX2_learnIn 65 = .ok (.getfield 13, 3) := by decide +kernel
theorem dX2_learnIn_68 : decode cX2_learnIn 68 = .ok (.ifCond .ne 5, 3) := by decide +kernel
theorem dX2_learnIn_71 : decode cX2_learnIn 71 = .ok (.iload_n 2, 1) := by decide +kernel
theorem dX2_learnIn_72 : decode cX2_learnIn 72 = .ok (.ireturn, 1) := by decide +kernel
theorem dX3_become_0 : decode cX3_become 0 = .ok (.aload_n 0, 1) := by decide +kernel
theorem dX3_become_1 : decode cX3_become 1 = .ok (.aload_n 1, 1) := by decide +kernel
theorem dX3_become_2 : decode cX3_become 2 = .ok (.getfield 9, 3) := by decide +kernel
theorem dX3_become_5 : decode cX3_become 5 = .ok (.putfield 9, 3) := by decide +kernel
theorem dX3_become_8 : decode cX3_become 8 = .ok (.aload_n 1, 1) := by decide +kernel
theorem dX3_become_9 : decode cX3_become 9 = .ok (.getfield 15, 3) := by decide +kernel
theorem dX3_become_12 : decode cX3_become 12 = .ok (.iconst 0, 1) := by decide +kernel
theorem dX3_become_13 : decode cX3_become 13 = .ok (.aload_n 0, 1) := by decide +kernel
theorem dX3_become_14 : decode cX3_become 14 = .ok (.getfield 15, 3) := by decide +kernel
theorem dX3_become_17 : decode cX3_become 17 = .ok (.iconst 0, 1) := by decide +kernel
theorem dX3_become_18 : decode cX3_become 18 = .ok (.bipush 8, 2) := by decide +kernel
theorem dX3_become_20 : decode cX3_become 20 = .ok (.invokestatic 29, 3) := by decide +kernel
theorem dX3_become_23 : decode cX3_become 23 = .ok (.aload_n 1, 1) := by decide +kernel
theorem dX3_become_24 : decode cX3_become 24 = .ok (.getfield 19, 3) := by decide +kernel
theorem dX3_become_27 : decode cX3_become 27 = .ok (.iconst 0, 1) := by decide +kernel
theorem dX3_become_28 : decode cX3_become 28 = .ok (.aload_n 0, 1) := by decide +kernel
theorem dX3_become_29 : decode cX3_become 29 = .ok (.getfield 19, 3) := by decide +kernel
theorem dX3_become_32 : decode cX3_become 32 = .ok (.iconst 0, 1) := by decide +kernel
theorem dX3_become_33 : decode cX3_become 33 = .ok (.bipush 48, 2) := by decide +kernel
theorem dX3_become_35 : decode cX3_become 35 = .ok (.invokestatic 29, 3) := by decide +kernel
theorem dX3_become_38 : decode cX3_become 38 = .ok (.return_, 1) := by decide +kernel
theorem dX3_has_0 : decode cX3_has 0 = .ok (.iload_n 1, 1) := by decide +kernel
theorem dX3_has_1 : decode cX3_has 1 = .ok (.ifCond .lt 15, 3) := by decide +kernel
theorem dX3_has_4 : decode cX3_has 4 = .ok (.iload_n 1, 1) := by decide +kernel
theorem dX3_has_5 : decode cX3_has 5 = .ok (.aload_n 0, 1) := by decide +kernel
theorem dX3_has_6 : decode cX3_has 6 = .ok (.getfield 9, 3) := by decide +kernel
theorem dX3_has_9 : decode cX3_has 9 = .ok (.if_icmp .ge 7, 3) := by decide +kernel
theorem dX3_has_16 : decode cX3_has 16 = .ok (.iconst 0, 1) := by decide +kernel
theorem dX3_has_17 : decode cX3_has 17 = .ok (.ireturn, 1) := by decide +kernel
theorem dX3_init_0 : decode cX3_init 0 = .ok (.aload_n 0, 1) := by decide +kernel
theorem dX3_init_1 : decode cX3_init 1 = .ok (.invokespecial 3, 3) := by decide +kernel
theorem dX3_init_4 : decode cX3_init 4 = .ok (.aload_n 0, 1) := by decide +kernel
theorem dX3_init_5 : decode cX3_init 5 = .ok (.iconst 0, 1) := by decide +kernel
theorem dX3_init_6 : decode cX3_init 6 = .ok (.putfield 9, 3) := by decide +kernel
theorem dX3_init_9 : decode cX3_init 9 = .ok (.aload_n 0, 1) := by decide +kernel
theorem dX3_init_10 : decode cX3_init 10 = .ok (.bipush 8, 2) := by decide +kernel
theorem dX3_init_12 : decode cX3_init 12 = .ok (.newarray .int, 2) := by decide +kernel
theorem dX3_init_14 : decode cX3_init 14 = .ok (.putfield 15, 3) := by decide +kernel
theorem dX3_init_17 : decode cX3_init 17 = .ok (.aload_n 0, 1) := by decide +kernel
theorem dX3_init_18 : decode cX3_init 18 = .ok (.bipush 48, 2) := by decide +kernel
theorem dX3_init_20 : decode cX3_init 20 = .ok (.newarray .int, 2) := by decide +kernel
theorem dX3_init_22 : decode cX3_init 22 = .ok (.putfield 19, 3) := by decide +kernel
theorem dX3_init_25 : decode cX3_init 25 = .ok (.return_, 1) := by decide +kernel
theorem dX4_begin_0 : decode cX4_begin 0 = .ok (.aload_n 0, 1) := by decide +kernel
theorem dX4_begin_1 : decode cX4_begin 1 = .ok (.iload_n 1, 1) := by decide +kernel
theorem dX4_begin_2 : decode cX4_begin 2 = .ok (.putfield 9, 3) := by decide +kernel
theorem dX4_begin_5 : decode cX4_begin 5 = .ok (.aload_n 0, 1) := by decide +kernel
theorem dX4_begin_6 : decode cX4_begin 6 = .ok (.iload_n 2, 1) := by decide +kernel
theorem dX4_begin_7 : decode cX4_begin 7 = .ok (.putfield 15, 3) := by decide +kernel
theorem dX4_begin_10 : decode cX4_begin 10 = .ok (.iconst 0, 1) := by decide +kernel
theorem dX4_begin_11 : decode cX4_begin 11 = .ok (.istore_n 3, 1) := by decide +kernel
theorem dX4_begin_12 : decode cX4_begin 12 = .ok (.iload_n 3, 1) := by decide +kernel
theorem dX4_begin_13 : decode cX4_begin 13 = .ok (.bipush 40, 2) := by decide +kernel
theorem dX4_begin_15 : decode cX4_begin 15 = .ok (.if_icmp .ge 16, 3) := by decide +kernel
theorem dX4_begin_18 : decode cX4_begin 18 = .ok (.aload_n 0, 1) := by decide +kernel
theorem dX4_begin_19 : decode cX4_begin 19 = .ok (.getfield 18, 3) := by decide +kernel
theorem dX4_begin_22 : decode cX4_begin 22 = .ok (.iload_n 3, 1) := by decide +kernel
theorem dX4_begin_23 : decode cX4_begin 23 = .ok (.lconst 0, 1) := by decide +kernel
theorem dX4_begin_24 : decode cX4_begin 24 = .ok (.lastore, 1) := by decide +kernel
theorem dX4_begin_25 : decode cX4_begin 25 = .ok (.iinc 3 1, 3) := by decide +kernel
theorem dX4_begin_28 : decode cX4_begin 28 = .ok (.goto (-16), 3) := by decide +kernel
theorem dX4_begin_31 : decode cX4_begin 31 = .ok (.return_, 1) := by decide +kernel
theorem dX4_init_0 : decode cX4_init 0 = .ok (.aload_n 0, 1) := by decide +kernel
theorem dX4_init_1 : decode cX4_init 1 = .ok (.invokespecial 3, 3) := by decide +kernel
theorem dX4_init_4 : decode cX4_init 4 = .ok (.aload_n 0, 1) := by decide +kernel
theorem dX4_init_5 : decode cX4_init 5 = .ok (.iconst 0, 1) := by decide +kernel
theorem dX4_init_6 : decode cX4_init 6 = .ok (.putfield 9, 3) := by decide +kernel
theorem dX4_init_9 : decode cX4_init 9 = .ok (.aload_n 0, 1) := by decide +kernel
theorem dX4_init_10 : decode cX4_init 10 = .ok (.iconst 0, 1) := by decide +kernel
theorem dX4_init_11 : decode cX4_init 11 = .ok (.putfield 15, 3) := by decide +kernel
theorem dX4_init_14 : decode cX4_init 14 = .ok (.aload_n 0, 1) := by decide +kernel
theorem dX4_init_15 : decode cX4_init 15 = .ok (.bipush 40, 2) := by decide +kernel
theorem dX4_init_17 : decode cX4_init 17 = .ok (.newarray .long, 2) := by decide +kernel
theorem dX4_init_19 : decode cX4_init 19 = .ok (.putfield 18, 3) := by decide +kernel
theorem dX4_init_22 : decode cX4_init 22 = .ok (.return_, 1) := by decide +kernel
theorem dX4_isMissing_0 : decode cX4_isMissing 0 = .ok (.aload_n 0, 1) := by decide +kernel
theorem dX4_isMissing_1 : decode cX4_isMissing 1 = .ok (.getfield 9, 3) := by decide +kernel
theorem dX4_isMissing_4 : decode cX4_isMissing 4 = .ok (.ifCond .ne 7, 3) := by decide +kernel
theorem dX4_isMissing_7 : decode cX4_isMissing 7 = .ok (.iconst 1, 1) := by decide +kernel
theorem dX4_isMissing_8 : decode cX4_isMissing 8 = .ok (.goto 4, 3) := by decide +kernel
theorem dX4_isMissing_12 : decode cX4_isMissing 12 = .ok (.ireturn, 1) := by decide +kernel
theorem dX5_climb_0 : decode cX5_climb 0 = .ok (.iconst 0, 1) := by decide +kernel
theorem dX5_climb_1 : decode cX5_climb 1 = .ok (.istore_n 2, 1) := by decide +kernel
theorem dX5_climb_2 : decode cX5_climb 2 = .ok (.iload_n 2, 1) := by decide +kernel
theorem dX5_climb_3 : decode cX5_climb 3 = .ok (.aload_n 1, 1) := by decide +kernel
theorem dX5_climb_4 : decode cX5_climb 4 = .ok (.getfield 22, 3) := by decide +kernel
theorem dX5_climb_7 : decode cX5_climb 7 = .ok (.if_icmp .ge 16, 3) := by decide +kernel
theorem dX5_climb_23 : decode cX5_climb 23 = .ok (.iconst 0, 1) := by decide +kernel
theorem dX5_climb_24 : decode cX5_climb 24 = .ok (.istore_n 2, 1) := by decide +kernel
theorem dX5_climb_25 : decode cX5_climb 25 = .ok (.iload_n 2, 1) := by decide +kernel
theorem dX5_climb_26 : decode cX5_climb 26 = .ok (.aload_n 1, 1) := by decide +kernel
theorem dX5_climb_27 : decode cX5_climb 27 = .ok (.getfield 22, 3) := by decide +kernel
theorem dX5_climb_30 : decode cX5_climb 30 = .ok (.if_icmp .ge 24, 3) := by decide +kernel
theorem dX5_climb_54 : decode cX5_climb 54 = .ok (.return_, 1) := by decide +kernel
theorem dX5_doFit_0 : decode cX5_doFit 0 = .ok (.iconst 0, 1) := by decide +kernel
theorem dX5_doFit_1 : decode cX5_doFit 1 = .ok (.istore_n 2, 1) := by decide +kernel
theorem dX5_doFit_2 : decode cX5_doFit 2 = .ok (.iload_n 2, 1) := by decide +kernel
theorem dX5_doFit_3 : decode cX5_doFit 3 = .ok (.aload_n 1, 1) := by decide +kernel
theorem dX5_doFit_4 : decode cX5_doFit 4 = .ok (.getfield 22, 3) := by decide +kernel
theorem dX5_doFit_7 : decode cX5_doFit 7 = .ok (.if_icmp .ge 60, 3) := by decide +kernel
theorem dX5_doFit_67 : decode cX5_doFit 67 = .ok (.iconst 1, 1) := by decide +kernel
theorem dX5_doFit_68 : decode cX5_doFit 68 = .ok (.ireturn, 1) := by decide +kernel
theorem dX5_init_0 : decode cX5_init 0 = .ok (.aload_n 0, 1) := by decide +kernel
theorem dX5_init_1 : decode cX5_init 1 = .ok (.invokespecial 3, 3) := by decide +kernel
theorem dX5_init_4 : decode cX5_init 4 = .ok (.aload_n 0, 1) := by decide +kernel
theorem dX5_init_5 : decode cX5_init 5 = .ok (.bipush 10, 2) := by decide +kernel
theorem dX5_init_7 : decode cX5_init 7 = .ok (.newarray .int, 2) := by decide +kernel
theorem dX5_init_9 : decode cX5_init 9 = .ok (.putfield 9, 3) := by decide +kernel
theorem dX5_init_12 : decode cX5_init 12 = .ok (.aload_n 0, 1) := by decide +kernel
theorem dX5_init_13 : decode cX5_init 13 = .ok (.bipush 10, 2) := by decide +kernel
theorem dX5_init_15 : decode cX5_init 15 = .ok (.newarray .boolean, 2) := by decide +kernel
theorem dX5_init_17 : decode cX5_init 17 = .ok (.putfield 15, 3) := by decide +kernel
theorem dX5_init_20 : decode cX5_init 20 = .ok (.aload_n 0, 1) := by decide +kernel
theorem dX5_init_21 : decode cX5_init 21 = .ok (.bipush 10, 2) := by decide +kernel
theorem dX5_init_23 : decode cX5_init 23 = .ok (.newarray .int, 2) := by decide +kernel
theorem dX5_init_25 : decode cX5_init 25 = .ok (.putfield 19, 3) := by decide +kernel
theorem dX5_init_28 : decode cX5_init 28 = .ok (.return_, 1) := by decide +kernel
theorem dX5_mostOffPaper_0 : decode cX5_mostOffPaper 0 = .ok (.iconst (-1), 1) := by decide +kernel
theorem dX5_mostOffPaper_1 : decode cX5_mostOffPaper 1 = .ok (.istore_n 1, 1) := by decide +kernel
theorem dX5_mostOffPaper_2 : decode cX5_mostOffPaper 2 = .ok (.iconst 0, 1) := by decide +kernel
theorem dX5_mostOffPaper_3 : decode cX5_mostOffPaper 3 = .ok (.istore_n 2, 1) := by decide +kernel
theorem dX5_mostOffPaper_4 : decode cX5_mostOffPaper 4 = .ok (.iload_n 2, 1) := by decide +kernel
theorem dX5_mostOffPaper_5 : decode cX5_mostOffPaper 5 = .ok (.aload_n 0, 1) := by decide +kernel
theorem dX5_mostOffPaper_6 : decode cX5_mostOffPaper 6 = .ok (.getfield 22, 3) := by decide +kernel
theorem dX5_mostOffPaper_9 : decode cX5_mostOffPaper 9 = .ok (.if_icmp .ge 60, 3) := by decide +kernel
theorem dX5_mostOffPaper_69 : decode cX5_mostOffPaper 69 = .ok (.iload_n 1, 1) := by decide +kernel
theorem dX5_mostOffPaper_70 : decode cX5_mostOffPaper 70 = .ok (.ireturn, 1) := by decide +kernel
theorem dX6_init_0 : decode cX6_init 0 = .ok (.aload_n 0, 1) := by decide +kernel
theorem dX6_init_1 : decode cX6_init 1 = .ok (.invokespecial 3, 3) := by decide +kernel
theorem dX6_init_4 : decode cX6_init 4 = .ok (.aload_n 0, 1) := by decide +kernel
theorem dX6_init_5 : decode cX6_init 5 = .ok (.sipush 384, 3) := by decide +kernel
theorem dX6_init_8 : decode cX6_init 8 = .ok (.newarray .int, 2) := by decide +kernel
theorem dX6_init_10 : decode cX6_init 10 = .ok (.putfield 9, 3) := by decide +kernel
theorem dX6_init_13 : decode cX6_init 13 = .ok (.return_, 1) := by decide +kernel
theorem dX7_addByte_0 : decode cX7_addByte 0 = .ok (.aload_n 0, 1) := by decide +kernel
theorem dX7_addByte_1 : decode cX7_addByte 1 = .ok (.getfield 9, 3) := by decide +kernel
theorem dX7_addByte_4 : decode cX7_addByte 4 = .ok (.bipush 120, 2) := by decide +kernel
theorem dX7_addByte_6 : decode cX7_addByte 6 = .ok (.if_icmp .ge 23, 3) := by decide +kernel
theorem dX7_addByte_9 : decode cX7_addByte 9 = .ok (.aload_n 0, 1) := by decide +kernel
theorem dX7_addByte_10 : decode cX7_addByte 10 = .ok (.getfield 15, 3) := by decide +kernel
theorem dX7_addByte_13 : decode cX7_addByte 13 = .ok (.aload_n 0, 1) := by decide +kernel
theorem dX7_addByte_14 : decode cX7_addByte 14 = .ok (.getfield 9, 3) := by decide +kernel
theorem dX7_addByte_17 : decode cX7_addByte 17 = .ok (.iload_n 1, 1) := by decide +kernel
theorem dX7_addByte_18 : decode cX7_addByte 18 = .ok (.iastore, 1) := by decide +kernel
theorem dX7_addByte_19 : decode cX7_addByte 19 = .ok (.aload_n 0, 1) := by decide +kernel
theorem dX7_addByte_20 : decode cX7_addByte 20 = .ok (.dup, 1) := by decide +kernel
theorem dX7_addByte_21 : decode cX7_addByte 21 = .ok (.getfield 9, 3) := by decide +kernel
theorem dX7_addByte_24 : decode cX7_addByte 24 = .ok (.iconst 1, 1) := by decide +kernel
theorem dX7_addByte_25 : decode cX7_addByte 25 = .ok (.iadd, 1) := by decide +kernel
theorem dX7_addByte_26 : decode cX7_addByte 26 = .ok (.putfield 9, 3) := by decide +kernel
theorem dX7_addByte_29 : decode cX7_addByte 29 = .ok (.return_, 1) := by decide +kernel
theorem dX7_init_0 : decode cX7_init 0 = .ok (.aload_n 0, 1) := by decide +kernel
theorem dX7_init_1 : decode cX7_init 1 = .ok (.invokespecial 3, 3) := by decide +kernel
theorem dX7_init_4 : decode cX7_init 4 = .ok (.aload_n 0, 1) := by decide +kernel
theorem dX7_init_5 : decode cX7_init 5 = .ok (.iconst 0, 1) := by decide +kernel
theorem dX7_init_6 : decode cX7_init 6 = .ok (.putfield 9, 3) := by decide +kernel
theorem dX7_init_9 : decode cX7_init 9 = .ok (.aload_n 0, 1) := by decide +kernel
theorem dX7_init_10 : decode cX7_init 10 = .ok (.bipush 120, 2) := by decide +kernel
theorem dX7_init_12 : decode cX7_init 12 = .ok (.newarray .int, 2) := by decide +kernel
theorem dX7_init_14 : decode cX7_init 14 = .ok (.putfield 15, 3) := by decide +kernel
theorem dX7_init_17 : decode cX7_init 17 = .ok (.aload_n 0, 1) := by decide +kernel
theorem dX7_init_18 : decode cX7_init 18 = .ok (.iconst 0, 1) := by decide +kernel
theorem dX7_init_19 : decode cX7_init 19 = .ok (.putfield 19, 3) := by decide +kernel
theorem dX7_init_22 : decode cX7_init 22 = .ok (.aload_n 0, 1) := by decide +kernel
theorem dX7_init_23 : decode cX7_init 23 = .ok (.iconst 0, 1) := by decide +kernel
theorem dX7_init_24 : decode cX7_init 24 = .ok (.putfield 22, 3) := by decide +kernel
theorem dX7_init_27 : decode cX7_init 27 = .ok (.aload_n 0, 1) := by decide +kernel
theorem dX7_init_28 : decode cX7_init 28 = .ok (.iconst 0, 1) := by decide +kernel
theorem dX7_init_29 : decode cX7_init 29 = .ok (.putfield 25, 3) := by decide +kernel
theorem dX7_init_32 : decode cX7_init 32 = .ok (.aload_n 0, 1) := by decide +kernel
theorem dX7_init_33 : decode cX7_init 33 = .ok (.iconst 0, 1) := by decide +kernel
theorem dX7_init_34 : decode cX7_init 34 = .ok (.putfield 28, 3) := by decide +kernel
theorem dX7_init_37 : decode cX7_init 37 = .ok (.aload_n 0, 1) := by decide +kernel
theorem dX7_init_38 : decode cX7_init 38 = .ok (.iconst 0, 1) := by decide +kernel
theorem dX7_init_39 : decode cX7_init 39 = .ok (.putfield 31, 3) := by decide +kernel
theorem dX7_init_42 : decode cX7_init 42 = .ok (.return_, 1) := by decide +kernel
theorem dX7_isWord_0 : decode cX7_isWord 0 = .ok (.aload_n 0, 1) := by decide +kernel
theorem dX7_isWord_1 : decode cX7_isWord 1 = .ok (.getfield 19, 3) := by decide +kernel
theorem dX7_isWord_4 : decode cX7_isWord 4 = .ok (.iconst 1, 1) := by decide +kernel
theorem dX7_isWord_5 : decode cX7_isWord 5 = .ok (.if_icmp .ne 19, 3) := by decide +kernel
theorem dX7_isWord_24 : decode cX7_isWord 24 = .ok (.iconst 0, 1) := by decide +kernel
theorem dX7_isWord_25 : decode cX7_isWord 25 = .ok (.ireturn, 1) := by decide +kernel
theorem dX7_kindAt_0 : decode cX7_kindAt 0 = .ok (.iload_n 1, 1) := by decide +kernel
theorem dX7_kindAt_1 : decode cX7_kindAt 1 = .ok (.aload_n 0, 1) := by decide +kernel
theorem dX7_kindAt_2 : decode cX7_kindAt 2 = .ok (.getfield 9, 3) := by decide +kernel
theorem dX7_kindAt_5 : decode cX7_kindAt 5 = .ok (.if_icmp .lt 5, 3) := by decide +kernel
theorem dX7_kindAt_8 : decode cX7_kindAt 8 = .ok (.iconst 0, 1) := by decide +kernel
theorem dX7_kindAt_9 : decode cX7_kindAt 9 = .ok (.ireturn, 1) := by decide +kernel
theorem dX7_step_0 : decode cX7_step 0 = .ok (.aload_n 0, 1) := by decide +kernel
theorem dX7_step_1 : decode cX7_step 1 = .ok (.getfield 25, 3) := by decide +kernel
theorem dX7_step_4 : decode cX7_step 4 = .ok (.istore_n 1, 1) := by decide +kernel
theorem dX7_step_5 : decode cX7_step 5 = .ok (.iload_n 1, 1) := by decide +kernel
theorem dX7_step_6 : decode cX7_step 6 = .ok (.aload_n 0, 1) := by decide +kernel
theorem dX7_step_7 : decode cX7_step 7 = .ok (.getfield 9, 3) := by decide +kernel
theorem dX7_step_10 : decode cX7_step 10 = .ok (.if_icmp .ge 20, 3) := by decide +kernel
theorem dX7_step_30 : decode cX7_step 30 = .ok (.aload_n 0, 1) := by decide +kernel
theorem dX7_step_31 : decode cX7_step 31 = .ok (.iload_n 1, 1) := by decide +kernel
theorem dX7_step_32 : decode cX7_step 32 = .ok (.putfield 22, 3) := by decide +kernel
theorem dX7_step_35 : decode cX7_step 35 = .ok (.aload_n 0, 1) := by decide +kernel
theorem dX7_step_36 : decode cX7_step 36 = .ok (.aload_n 0, 1) := by decide +kernel
theorem dX7_step_37 : decode cX7_step 37 = .ok (.iload_n 1, 1) := by decide +kernel
theorem dX7_step_38 : decode cX7_step 38 = .ok (.invokevirtual 142, 3) := by decide +kernel
theorem dX7_step_41 : decode cX7_step 41 = .ok (.putfield 19, 3) := by decide +kernel
theorem dX7_step_44 : decode cX7_step 44 = .ok (.aload_n 0, 1) := by decide +kernel
theorem dX7_step_45 : decode cX7_step 45 = .ok (.iconst 0, 1) := by decide +kernel
theorem dX7_step_46 : decode cX7_step 46 = .ok (.putfield 28, 3) := by decide +kernel
theorem dX7_step_49 : decode cX7_step 49 = .ok (.aload_n 0, 1) := by decide +kernel
theorem dX7_step_50 : decode cX7_step 50 = .ok (.getfield 19, 3) := by decide +kernel
theorem dX7_step_53 : decode cX7_step 53 = .ok (.iconst 1, 1) := by decide +kernel
theorem dX7_step_54 : decode cX7_step 54 = .ok (.if_icmp .eq 11, 3) := by decide +kernel
theorem dX7_step_57 : decode cX7_step 57 = .ok (.aload_n 0, 1) := by decide +kernel
theorem dX7_step_58 : decode cX7_step 58 = .ok (.getfield 19, 3) := by decide +kernel
theorem dX7_step_61 : decode cX7_step 61 = .ok (.iconst 2, 1) := by decide +kernel
theorem dX7_step_62 : decode cX7_step 62 = .ok (.if_icmp .ne 7, 3) := by decide +kernel
theorem dX7_step_69 : decode cX7_step 69 = .ok (.iconst 0, 1) := by decide +kernel
theorem dX7_step_70 : decode cX7_step 70 = .ok (.istore_n 2, 1) := by decide +kernel
theorem dX7_step_71 : decode cX7_step 71 = .ok (.iload_n 1, 1) := by decide +kernel
theorem dX7_step_72 : decode cX7_step 72 = .ok (.aload_n 0, 1) := by decide +kernel
theorem dX7_step_73 : decode cX7_step 73 = .ok (.getfield 9, 3) := by decide +kernel
theorem dX7_step_76 : decode cX7_step 76 = .ok (.if_icmp .ge 68, 3) := by decide +kernel
theorem dX7_step_144 : decode cX7_step 144 = .ok (.aload_n 0, 1) := by decide +kernel
theorem dX7_step_145 : decode cX7_step 145 = .ok (.iload_n 1, 1) := by decide +kernel
theorem dX7_step_146 : decode cX7_step 146 = .ok (.putfield 25, 3) := by decide +kernel
theorem dX7_step_149 : decode cX7_step 149 = .ok (.return_, 1) := by decide +kernel
theorem dX7_takeItem_0 : decode cX7_takeItem 0 = .ok (.aload_n 0, 1) := by decide +kernel
theorem dX7_takeItem_1 : decode cX7_takeItem 1 = .ok (.ldc 41, 2) := by decide +kernel
theorem dX7_takeItem_3 : decode cX7_takeItem 3 = .ok (.invokevirtual 43, 3) := by decide +kernel
theorem dX7_takeItem_6 : decode cX7_takeItem 6 = .ok (.ifCond .eq 9, 3) := by decide +kernel
theorem dX7_takeItem_15 : decode cX7_takeItem 15 = .ok (.aload_n 0, 1) := by decide +kernel
theorem dX7_takeItem_16 : decode cX7_takeItem 16 = .ok (.ldc 50, 2) := by decide +kernel
theorem dX7_takeItem_18 : decode cX7_takeItem 18 = .ok (.invokevirtual 43, 3) := by decide +kernel
theorem dX7_takeItem_21 : decode cX7_takeItem 21 = .ok (.ifCond .eq 9, 3) := by decide +kernel
theorem dX7_takeItem_30 : decode cX7_takeItem 30 = .ok (.aload_n 0, 1) := by decide +kernel
theorem dX7_takeItem_31 : decode cX7_takeItem 31 = .ok (.ldc 55, 2) := by decide +kernel
theorem dX7_takeItem_33 : decode cX7_takeItem 33 = .ok (.invokevirtual 43, 3) := by decide +kernel
theorem dX7_takeItem_36 : decode cX7_takeItem 36 = .ok (.ifCond .eq 15, 3) := by decide +kernel
theorem dX7_takeItem_51 : decode cX7_takeItem 51 = .ok (.iconst 0, 1) := by decide +kernel
theorem dX7_takeItem_52 : decode cX7_takeItem 52 = .ok (.ireturn, 1) := by decide +kernel
theorem dX7_tellTo_0 : decode cX7_tellTo 0 = .ok (.aload_n 0, 1) := by decide +kernel
theorem dX7_tellTo_1 : decode cX7_tellTo 1 = .ok (.iconst 0, 1) := by decide +kernel
theorem dX7_tellTo_2 : decode cX7_tellTo 2 = .ok (.putfield 25, 3) := by decide +kernel
theorem dX7_tellTo_5 : decode cX7_tellTo 5 = .ok (.aload_n 0, 1) := by decide +kernel
theorem dX7_tellTo_6 : decode cX7_tellTo 6 = .ok (.invokevirtual 34, 3) := by decide +kernel
theorem dX7_tellTo_9 : decode cX7_tellTo 9 = .ok (.iconst 1, 1) := by decide +kernel
theorem dX7_tellTo_10 : decode cX7_tellTo 10 = .ok (.istore_n 2, 1) := by decide +kernel
theorem dX7_tellTo_11 : decode cX7_tellTo 11 = .ok (.iload_n 2, 1) := by decide +kernel
theorem dX7_tellTo_12 : decode cX7_tellTo 12 = .ok (.bipush 120, 2) := by decide +kernel
theorem dX7_tellTo_14 : decode cX7_tellTo 14 = .ok (.if_icmp .gt 52, 3) := by decide +kernel
theorem dX7_tellTo_17 : decode cX7_tellTo 17 = .ok (.aload_n 0, 1) := by decide +kernel
theorem dX7_tellTo_18 : decode cX7_tellTo 18 = .ok (.aload_n 1, 1) := by decide +kernel
theorem dX7_tellTo_19 : decode cX7_tellTo 19 = .ok (.invokevirtual 37, 3) := by decide +kernel
theorem dX7_tellTo_22 : decode cX7_tellTo 22 = .ok (.ifCond .ne 10, 3) := by decide +kernel
theorem dX7_tellTo_25 : decode cX7_tellTo 25 = .ok (.iconst (-1), 1) := by decide +kernel
theorem dX7_tellTo_26 : decode cX7_tellTo 26 = .ok (.aload_n 0, 1) := by decide +kernel
theorem dX7_tellTo_27 : decode cX7_tellTo 27 = .ok (.getfield 22, 3) := by decide +kernel
theorem dX7_tellTo_30 : decode cX7_tellTo 30 = .ok (.isub, 1) := by decide +kernel
theorem dX7_tellTo_31 : decode cX7_tellTo 31 = .ok (.ireturn, 1) := by decide +kernel
theorem dX8_as_0 : decode cX8_as 0 = .ok (.aload_n 0, 1) := by decide +kernel
theorem dX8_as_1 : decode cX8_as 1 = .ok (.getfield 12, 3) := by decide +kernel
theorem dX8_as_4 : decode cX8_as 4 = .ok (.getfield 159, 3) := by decide +kernel
theorem dX8_as_7 : decode cX8_as 7 = .ok (.iload_n 1, 1) := by decide +kernel
theorem dX8_as_8 : decode cX8_as 8 = .ok (.invokevirtual 171, 3) := by decide +kernel
theorem dX8_as_11 : decode cX8_as 11 = .ok (.ifCond .eq 10, 3) := by decide +kernel
theorem dX8_as_21 : decode cX8_as 21 = .ok (.aload_n 0, 1) := by decide +kernel
theorem dX8_as_22 : decode cX8_as 22 = .ok (.ldc 95, 2) := by decide +kernel
theorem dX8_as_24 : decode cX8_as 24 = .ok (.invokevirtual 80, 3) := by decide +kernel
theorem dX8_as_27 : decode cX8_as 27 = .ok (.ireturn, 1) := by decide +kernel
theorem dX8_ask_0 : decode cX8_ask 0 = .ok (.aload_n 0, 1) := by decide +kernel
theorem dX8_ask_1 : decode cX8_ask 1 = .ok (.getfield 12, 3) := by decide +kernel
theorem dX8_ask_4 : decode cX8_ask 4 = .ok (.invokevirtual 256, 3) := by decide +kernel
theorem dX8_ask_7 : decode cX8_ask 7 = .ok (.istore_n 1, 1) := by decide +kernel
theorem dX8_ask_8 : decode cX8_ask 8 = .ok (.iload_n 1, 1) := by decide +kernel
theorem dX8_ask_9 : decode cX8_ask 9 = .ok (.ifCond .ge 12, 3) := by decide +kernel
theorem dX8_ask_12 : decode cX8_ask 12 = .ok (.aload_n 0, 1) := by decide +kernel
theorem dX8_ask_13 : decode cX8_ask 13 = .ok (.ldc 113, 2) := by decide +kernel
theorem dX8_ask_15 : decode cX8_ask 15 = .ok (.invokevirtual 80, 3) := by decide +kernel
theorem dX8_ask_18 : decode cX8_ask 18 = .ok (.goto 4, 3) := by decide +kernel
theorem dX8_ask_22 : decode cX8_ask 22 = .ok (.ireturn, 1) := by decide +kernel
theorem dX8_by_0 : decode cX8_by 0 = .ok (.aload_n 0, 1) := by decide +kernel
theorem dX8_by_1 : decode cX8_by 1 = .ok (.getfield 12, 3) := by decide +kernel
theorem dX8_by_4 : decode cX8_by 4 = .ok (.iload_n 1, 1) := by decide +kernel
theorem dX8_by_5 : decode cX8_by 5 = .ok (.i2l, 1) := by decide +kernel
theorem dX8_by_6 : decode cX8_by 6 = .ok (.invokevirtual 87, 3) := by decide +kernel
theorem dX8_by_9 : decode cX8_by 9 = .ok (.ifCond .eq 25, 3) := by decide +kernel
theorem dX8_by_34 : decode cX8_by 34 = .ok (.aload_n 0, 1) := by decide +kernel
theorem dX8_by_35 : decode cX8_by 35 = .ok (.ldc 95, 2) := by decide +kernel
theorem dX8_by_37 : decode cX8_by 37 = .ok (.invokevirtual 80, 3) := by decide +kernel
theorem dX8_by_40 : decode cX8_by 40 = .ok (.ireturn, 1) := by decide +kernel
theorem dX8_copy_0 : decode cX8_copy 0 = .ok (.iload_n 1, 1) := by decide +kernel
theorem dX8_copy_1 : decode cX8_copy 1 = .ok (.invokestatic 285, 3) := by decide +kernel
theorem dX8_copy_4 : decode cX8_copy 4 = .ok (.ifCond .eq 10, 3) := by decide +kernel
theorem dX8_copy_7 : decode cX8_copy 7 = .ok (.iload_n 3, 1) := by decide +kernel
theorem dX8_copy_8 : decode cX8_copy 8 = .ok (.invokestatic 285, 3) := by decide +kernel
theorem dX8_copy_11 : decode cX8_copy 11 = .ok (.ifCond .ne 10, 3) := by decide +kernel
theorem dX8_copy_14 : decode cX8_copy 14 = .ok (.aload_n 0, 1) := by decide +kernel
theorem dX8_copy_15 : decode cX8_copy 15 = .ok (.ldc 95, 2) := by decide +kernel
theorem dX8_copy_17 : decode cX8_copy 17 = .ok (.invokevirtual 80, 3) := by decide +kernel
theorem dX8_copy_20 : decode cX8_copy 20 = .ok (.ireturn, 1) := by decide +kernel
theorem dX8_copy_21 : decode cX8_copy 21 = .ok (.aload_n 0, 1) := by decide +kernel
theorem dX8_copy_22 : decode cX8_copy 22 = .ok (.getfield 66, 3) := by decide +kernel
theorem dX8_copy_25 : decode cX8_copy 25 = .ok (.iload_n 1, 1) := by decide +kernel
theorem dX8_copy_26 : decode cX8_copy 26 = .ok (.aaload, 1) := by decide +kernel
theorem dX8_copy_27 : decode cX8_copy 27 = .ok (.astore 6, 2) := by decide +kernel
theorem dX8_copy_29 : decode cX8_copy 29 = .ok (.aload_n 0, 1) := by decide +kernel
theorem dX8_copy_30 : decode cX8_copy 30 = .ok (.getfield 66, 3) := by decide +kernel
theorem dX8_copy_33 : decode cX8_copy 33 = .ok (.iload_n 3, 1) := by decide +kernel
theorem dX8_copy_34 : decode cX8_copy 34 = .ok (.aaload, 1) := by decide +kernel
theorem dX8_copy_35 : decode cX8_copy 35 = .ok (.astore 7, 2) := by decide +kernel
theorem dX8_copy_37 : decode cX8_copy 37 = .ok (.aload 6, 2) := by decide +kernel
theorem dX8_copy_39 : decode cX8_copy 39 = .ok (.invokevirtual 294, 3) := by decide +kernel
theorem dX8_copy_42 : decode cX8_copy 42 = .ok (.ifCond .ne 11, 3) := by decide +kernel
theorem dX8_copy_53 : decode cX8_copy 53 = .ok (.aload_n 0, 1) := by decide +kernel
theorem dX8_copy_54 : decode cX8_copy 54 = .ok (.ldc_w 297, 3) := by decide +kernel
theorem dX8_copy_57 : decode cX8_copy 57 = .ok (.invokevirtual 80, 3) := by decide +kernel
theorem dX8_copy_60 : decode cX8_copy 60 = .ok (.ireturn, 1) := by decide +kernel
theorem dX8_count_0 : decode cX8_count 0 = .ok (.iload_n 1, 1) := by decide +kernel
theorem dX8_count_1 : decode cX8_count 1 = .ok (.tableswitch 93 0 5 #[39, 47, 55, 66, 77, 85], 39) := by decide +kernel
theorem dX8_count_40 : decode cX8_count 40 = .ok (.aload_n 0, 1) := by decide +kernel
theorem dX8_count_41 : decode cX8_count 41 = .ok (.getfield 12, 3) := by decide +kernel
theorem dX8_count_44 : decode cX8_count 44 = .ok (.getfield 75, 3) := by decide +kernel
theorem dX8_count_47 : decode cX8_count 47 = .ok (.ireturn, 1) := by decide +kernel
theorem dX8_count_48 : decode cX8_count 48 = .ok (.aload_n 0, 1) := by decide +kernel
theorem dX8_count_49 : decode cX8_count 49 = .ok (.getfield 12, 3) := by decide +kernel
theorem dX8_count_52 : decode cX8_count 52 = .ok (.invokevirtual 247, 3) := by decide +kernel
theorem dX8_count_55 : decode cX8_count 55 = .ok (.ireturn, 1) := by decide +kernel
theorem dX8_count_56 : decode cX8_count 56 = .ok (.aload_n 0, 1) := by decide +kernel
theorem dX8_count_57 : decode cX8_count 57 = .ok (.getfield 12, 3) := by decide +kernel
theorem dX8_count_60 : decode cX8_count 60 = .ok (.getfield 159, 3) := by decide +kernel
theorem dX8_count_63 : decode cX8_count 63 = .ok (.getfield 326, 3) := by decide +kernel
theorem dX8_count_66 : decode cX8_count 66 = .ok (.ireturn, 1) := by decide +kernel
theorem dX8_count_67 : decode cX8_count 67 = .ok (.aload_n 0, 1) := by decide +kernel
theorem dX8_count_68 : decode cX8_count 68 = .ok (.getfield 12, 3) := by decide +kernel
theorem dX8_count_71 : decode cX8_count 71 = .ok (.getfield 229, 3) := by decide +kernel
theorem dX8_count_74 : decode cX8_count 74 = .ok (.getfield 326, 3) := by decide +kernel
theorem dX8_count_77 : decode cX8_count 77 = .ok (.ireturn, 1) := by decide +kernel
theorem dX8_count_78 : decode cX8_count 78 = .ok (.aload_n 0, 1) := by decide +kernel
theorem dX8_count_79 : decode cX8_count 79 = .ok (.getfield 60, 3) := by decide +kernel
theorem dX8_count_82 : decode cX8_count 82 = .ok (.getfield 275, 3) := by decide +kernel
theorem dX8_count_85 : decode cX8_count 85 = .ok (.ireturn, 1) := by decide +kernel
theorem dX8_count_86 : decode cX8_count 86 = .ok (.aload_n 0, 1) := by decide +kernel
theorem dX8_count_87 : decode cX8_count 87 = .ok (.getfield 12, 3) := by decide +kernel
theorem dX8_count_90 : decode cX8_count 90 = .ok (.invokevirtual 329, 3) := by decide +kernel
theorem dX8_count_93 : decode cX8_count 93 = .ok (.ireturn, 1) := by decide +kernel
theorem dX8_count_94 : decode cX8_count 94 = .ok (.aload_n 0, 1) := by decide +kernel
theorem dX8_count_95 : decode cX8_count 95 = .ok (.ldc 95, 2) := by decide +kernel
theorem dX8_count_97 : decode cX8_count 97 = .ok (.invokevirtual 80, 3) := by decide +kernel
theorem dX8_count_100 : decode cX8_count 100 = .ok (.ireturn, 1) := by decide +kernel
theorem dX8_errands_0 : decode cX8_errands 0 = .ok (.aload_n 0, 1) := by decide +kernel
theorem dX8_errands_1 : decode cX8_errands 1 = .ok (.getfield 12, 3) := by decide +kernel
theorem dX8_errands_4 : decode cX8_errands 4 = .ok (.iload_n 1, 1) := by decide +kernel
theorem dX8_errands_5 : decode cX8_errands 5 = .ok (.i2l, 1) := by decide +kernel
theorem dX8_errands_6 : decode cX8_errands 6 = .ok (.invokevirtual 87, 3) := by decide +kernel
theorem dX8_errands_9 : decode cX8_errands 9 = .ok (.ifCond .eq 13, 3) := by decide +kernel
theorem dX8_errands_22 : decode cX8_errands 22 = .ok (.aload_n 0, 1) := by decide +kernel
theorem dX8_errands_23 : decode cX8_errands 23 = .ok (.ldc 95, 2) := by decide +kernel
theorem dX8_errands_25 : decode cX8_errands 25 = .ok (.invokevirtual 80, 3) := by decide +kernel
theorem dX8_errands_28 : decode cX8_errands 28 = .ok (.ireturn, 1) := by decide +kernel
theorem dX8_far_0 : decode cX8_far 0 = .ok (.aload_n 0, 1) := by decide +kernel
theorem dX8_far_1 : decode cX8_far 1 = .ok (.getfield 12, 3) := by decide +kernel
theorem dX8_far_4 : decode cX8_far 4 = .ok (.iload_n 1, 1) := by decide +kernel
theorem dX8_far_5 : decode cX8_far 5 = .ok (.i2l, 1) := by decide +kernel
theorem dX8_far_6 : decode cX8_far 6 = .ok (.invokevirtual 87, 3) := by decide +kernel
theorem dX8_far_9 : decode cX8_far 9 = .ok (.ifCond .eq 15, 3) := by decide +kernel
theorem dX8_far_24 : decode cX8_far 24 = .ok (.aload_n 0, 1) := by decide +kernel
theorem dX8_far_25 : decode cX8_far 25 = .ok (.ldc 95, 2) := by decide +kernel
theorem dX8_far_27 : decode cX8_far 27 = .ok (.invokevirtual 80, 3) := by decide +kernel
theorem dX8_far_30 : decode cX8_far 30 = .ok (.ireturn, 1) := by decide +kernel
theorem dX8_feed_0 : decode cX8_feed 0 = .ok (.iload_n 2, 1) := by decide +kernel
theorem dX8_feed_1 : decode cX8_feed 1 = .ok (.iconst 1, 1) := by decide +kernel
theorem dX8_feed_2 : decode cX8_feed 2 = .ok (.iconst 4, 1) := by decide +kernel
theorem dX8_feed_3 : decode cX8_feed 3 = .ok (.invokestatic 91, 3) := by decide +kernel
theorem dX8_feed_6 : decode cX8_feed 6 = .ok (.ifCond .ne 10, 3) := by decide +kernel
theorem dX8_feed_9 : decode cX8_feed 9 = .ok (.aload_n 0, 1) := by decide +kernel
theorem dX8_feed_10 : decode cX8_feed 10 = .ok (.ldc 95, 2) := by decide +kernel
theorem dX8_feed_12 : decode cX8_feed 12 = .ok (.invokevirtual 80, 3) := by decide +kernel
theorem dX8_feed_15 : decode cX8_feed 15 = .ok (.ireturn, 1) := by decide +kernel
theorem dX8_feed_16 : decode cX8_feed 16 = .ok (.aload_n 0, 1) := by decide +kernel
theorem dX8_feed_17 : decode cX8_feed 17 = .ok (.getfield 60, 3) := by decide +kernel
theorem dX8_feed_20 : decode cX8_feed 20 = .ok (.getfield 275, 3) := by decide +kernel
theorem dX8_feed_23 : decode cX8_feed 23 = .ok (.iload_n 2, 1) := by decide +kernel
theorem dX8_feed_24 : decode cX8_feed 24 = .ok (.iadd, 1) := by decide +kernel
theorem dX8_feed_25 : decode cX8_feed 25 = .ok (.bipush 120, 2) := by decide +kernel
theorem dX8_feed_27 : decode cX8_feed 27 = .ok (.if_icmp .le 10, 3) := by decide +kernel
theorem dX8_feed_37 : decode cX8_feed 37 = .ok (.iload_n 2, 1) := by decide +kernel
theorem dX8_feed_38 : decode cX8_feed 38 = .ok (.iconst 1, 1) := by decide +kernel
theorem dX8_feed_39 : decode cX8_feed 39 = .ok (.isub, 1) := by decide +kernel
theorem dX8_feed_40 : decode cX8_feed 40 = .ok (.istore_n 3, 1) := by decide +kernel
theorem dX8_feed_41 : decode cX8_feed 41 = .ok (.iload_n 3, 1) := by decide +kernel
theorem dX8_feed_42 : decode cX8_feed 42 = .ok (.ifCond .lt 26, 3) := by decide +kernel
theorem dX8_feed_45 : decode cX8_feed 45 = .ok (.aload_n 0, 1) := by decide +kernel
theorem dX8_feed_46 : decode cX8_feed 46 = .ok (.getfield 60, 3) := by decide +kernel
theorem dX8_feed_49 : decode cX8_feed 49 = .ok (.iload_n 1, 1) := by decide +kernel
theorem dX8_feed_50 : decode cX8_feed 50 = .ok (.bipush 8, 2) := by decide +kernel
theorem dX8_feed_52 : decode cX8_feed 52 = .ok (.iload_n 3, 1) := by decide +kernel
theorem dX8_feed_53 : decode cX8_feed 53 = .ok (.imul, 1) := by decide +kernel
theorem dX8_feed_54 : decode cX8_feed 54 = .ok (.iushr, 1) := by decide +kernel
theorem dX8_feed_55 : decode cX8_feed 55 = .ok (.sipush 255, 3) := by decide +kernel
theorem dX8_feed_58 : decode cX8_feed 58 = .ok (.iand, 1) := by decide +kernel
theorem dX8_feed_59 : decode cX8_feed 59 = .ok (.invokevirtual 278, 3) := by decide +kernel
theorem dX8_feed_62 : decode cX8_feed 62 = .ok (.iinc 3 (-1), 3) := by decide +kernel
theorem dX8_feed_65 : decode cX8_feed 65 = .ok (.goto (-24), 3) := by decide +kernel
theorem dX8_feed_68 : decode cX8_feed 68 = .ok (.aload_n 0, 1) := by decide +kernel
theorem dX8_feed_69 : decode cX8_feed 69 = .ok (.getfield 60, 3) := by decide +kernel
theorem dX8_feed_72 : decode cX8_feed 72 = .ok (.getfield 275, 3) := by decide +kernel
theorem dX8_feed_75 : decode cX8_feed 75 = .ok (.ireturn, 1) := by decide +kernel
theorem dX8_finding_0 : decode cX8_finding 0 = .ok (.ldc 95, 2) := by decide +kernel
theorem dX8_finding_2 : decode cX8_finding 2 = .ok (.iload_n 1, 1) := by decide +kernel
theorem dX8_finding_3 : decode cX8_finding 3 = .ok (.isub, 1) := by decide +kernel
theorem dX8_finding_4 : decode cX8_finding 4 = .ok (.istore_n 2, 1) := by decide +kernel
theorem dX8_finding_5 : decode cX8_finding 5 = .ok (.iload_n 2, 1) := by decide +kernel
theorem dX8_finding_6 : decode cX8_finding 6 = .ok (.ifCond .lt 19, 3) := by decide +kernel
theorem dX8_finding_9 : decode cX8_finding 9 = .ok (.iload_n 2, 1) := by decide +kernel
theorem dX8_finding_10 : decode cX8_finding 10 = .ok (.bipush 7, 2) := by decide +kernel
theorem dX8_finding_12 : decode cX8_finding 12 = .ok (.if_icmp .ge 13, 3) := by decide +kernel
theorem dX8_finding_15 : decode cX8_finding 15 = .ok (.aload_n 0, 1) := by decide +kernel
theorem dX8_finding_16 : decode cX8_finding 16 = .ok (.getfield 70, 3) := by decide +kernel
theorem dX8_finding_19 : decode cX8_finding 19 = .ok (.iload_n 2, 1) := by decide +kernel
theorem dX8_finding_20 : decode cX8_finding 20 = .ok (.dup2, 1) := by decide +kernel
theorem dX8_finding_21 : decode cX8_finding 21 = .ok (.iaload, 1) := by decide +kernel
theorem dX8_finding_22 : decode cX8_finding 22 = .ok (.iconst 1, 1) := by decide +kernel
theorem dX8_finding_23 : decode cX8_finding 23 = .ok (.iadd, 1) := by decide +kernel
theorem dX8_finding_24 : decode cX8_finding 24 = .ok (.iastore, 1) := by decide +kernel
theorem dX8_finding_25 : decode cX8_finding 25 = .ok (.iload_n 1, 1) := by decide +kernel
theorem dX8_finding_26 : decode cX8_finding 26 = .ok (.ireturn, 1) := by decide +kernel
theorem dX8_fit_0 : decode cX8_fit 0 = .ok (.aload_n 0, 1) := by decide +kernel
theorem dX8_fit_1 : decode cX8_fit 1 = .ok (.getfield 46, 3) := by decide +kernel
theorem dX8_fit_4 : decode cX8_fit 4 = .ok (.aload_n 0, 1) := by decide +kernel
theorem dX8_fit_5 : decode cX8_fit 5 = .ok (.getfield 12, 3) := by decide +kernel
theorem dX8_fit_8 : decode cX8_fit 8 = .ok (.invokevirtual 209, 3) := by decide +kernel
theorem dX8_fit_11 : decode cX8_fit 11 = .ok (.aload_n 0, 1) := by decide +kernel
theorem dX8_fit_12 : decode cX8_fit 12 = .ok (.getfield 46, 3) := by decide +kernel
theorem dX8_fit_15 : decode cX8_fit 15 = .ok (.aload_n 0, 1) := by decide +kernel
theorem dX8_fit_16 : decode cX8_fit 16 = .ok (.getfield 12, 3) := by decide +kernel
theorem dX8_fit_19 : decode cX8_fit 19 = .ok (.invokevirtual 212, 3) := by decide +kernel
theorem dX8_fit_22 : decode cX8_fit 22 = .ok (.ifCond .eq 7, 3) := by decide +kernel
theorem dX8_fit_25 : decode cX8_fit 25 = .ok (.iconst 1, 1) := by decide +kernel
theorem dX8_fit_26 : decode cX8_fit 26 = .ok (.goto 4, 3) := by decide +kernel
theorem dX8_fit_30 : decode cX8_fit 30 = .ok (.ireturn, 1) := by decide +kernel
theorem dX8_goes_0 : decode cX8_goes 0 = .ok (.aload_n 0, 1) := by decide +kernel
theorem dX8_goes_1 : decode cX8_goes 1 = .ok (.getfield 12, 3) := by decide +kernel
theorem dX8_goes_4 : decode cX8_goes 4 = .ok (.iload_n 1, 1) := by decide +kernel
theorem dX8_goes_5 : decode cX8_goes 5 = .ok (.i2l, 1) := by decide +kernel
theorem dX8_goes_6 : decode cX8_goes 6 = .ok (.invokevirtual 87, 3) := by decide +kernel
theorem dX8_goes_9 : decode cX8_goes 9 = .ok (.ifCond .eq 14, 3) := by decide +kernel
theorem dX8_goes_23 : decode cX8_goes 23 = .ok (.aload_n 0, 1) := by decide +kernel
theorem dX8_goes_24 : decode cX8_goes 24 = .ok (.ldc 95, 2) := by decide +kernel
theorem dX8_goes_26 : decode cX8_goes 26 = .ok (.invokevirtual 80, 3) := by decide +kernel
theorem dX8_goes_29 : decode cX8_goes 29 = .ok (.ireturn, 1) := by decide +kernel
theorem dX8_height_0 : decode cX8_height 0 = .ok (.aload_n 0, 1) := by decide +kernel
theorem dX8_height_1 : decode cX8_height 1 = .ok (.getfield 12, 3) := by decide +kernel
theorem dX8_height_4 : decode cX8_height 4 = .ok (.iload_n 1, 1) := by decide +kernel
theorem dX8_height_5 : decode cX8_height 5 = .ok (.i2l, 1) := by decide +kernel
theorem dX8_height_6 : decode cX8_height 6 = .ok (.invokevirtual 87, 3) := by decide +kernel
theorem dX8_height_9 : decode cX8_height 9 = .ok (.ifCond .ne 10, 3) := by decide +kernel
theorem dX8_height_12 : decode cX8_height 12 = .ok (.aload_n 0, 1) := by decide +kernel
theorem dX8_height_13 : decode cX8_height 13 = .ok (.ldc 95, 2) := by decide +kernel
theorem dX8_height_15 : decode cX8_height 15 = .ok (.invokevirtual 80, 3) := by decide +kernel
theorem dX8_height_18 : decode cX8_height 18 = .ok (.ireturn, 1) := by decide +kernel
theorem dX8_hollow_0 : decode cX8_hollow 0 = .ok (.aload_n 0, 1) := by decide +kernel
theorem dX8_hollow_1 : decode cX8_hollow 1 = .ok (.getfield 12, 3) := by decide +kernel
theorem dX8_hollow_4 : decode cX8_hollow 4 = .ok (.invokevirtual 272, 3) := by decide +kernel
theorem dX8_hollow_7 : decode cX8_hollow 7 = .ok (.ireturn, 1) := by decide +kernel
theorem dX8_image_0 : decode cX8_image 0 = .ok (.aload_n 0, 1) := by decide +kernel
theorem dX8_image_1 : decode cX8_image 1 = .ok (.getfield 16, 3) := by decide +kernel
theorem dX8_image_4 : decode cX8_image 4 = .ok (.aload_n 0, 1) := by decide +kernel
theorem dX8_image_5 : decode cX8_image 5 = .ok (.getfield 12, 3) := by decide +kernel
theorem dX8_image_8 : decode cX8_image 8 = .ok (.invokevirtual 241, 3) := by decide +kernel
theorem dX8_image_11 : decode cX8_image 11 = .ok (.aload_n 0, 1) := by decide +kernel
theorem dX8_image_12 : decode cX8_image 12 = .ok (.iconst 1, 1) := by decide +kernel
theorem dX8_image_13 : decode cX8_image 13 = .ok (.putfield 22, 3) := by decide +kernel
theorem dX8_image_16 : decode cX8_image 16 = .ok (.iconst 1, 1) := by decide +kernel
theorem dX8_image_17 : decode cX8_image 17 = .ok (.ireturn, 1) := by decide +kernel
theorem dX8_init_0 : decode cX8_init 0 = .ok (.aload_n 0, 1) := by decide +kernel
theorem dX8_init_1 : decode cX8_init 1 = .ok (.invokespecial 3, 3) := by decide +kernel
theorem dX8_init_4 : decode cX8_init 4 = .ok (.aload_n 0, 1) := by decide +kernel
theorem dX8_init_5 : decode cX8_init 5 = .ok (.new 9, 3) := by decide +kernel
theorem dX8_init_8 : decode cX8_init 8 = .ok (.dup, 1) := by decide +kernel
theorem dX8_init_9 : decode cX8_init 9 = .ok (.invokespecial 11, 3) := by decide +kernel
theorem dX8_init_12 : decode cX8_init 12 = .ok (.putfield 12, 3) := by decide +kernel
theorem dX8_init_15 : decode cX8_init 15 = .ok (.aload_n 0, 1) := by decide +kernel
theorem dX8_init_16 : decode cX8_init 16 = .ok (.new 9, 3) := by decide +kernel
theorem dX8_init_19 : decode cX8_init 19 = .ok (.dup, 1) := by decide +kernel
theorem dX8_init_20 : decode cX8_init 20 = .ok (.invokespecial 11, 3) := by decide +kernel
theorem dX8_init_23 : decode cX8_init 23 = .ok (.putfield 16, 3) := by decide +kernel
theorem dX8_init_26 : decode cX8_init 26 = .ok (.aload_n 0, 1) := by decide +kernel
theorem dX8_init_27 : decode cX8_init 27 = .ok (.new 9, 3) := by decide +kernel
theorem dX8_init_30 : decode cX8_init 30 = .ok (.dup, 1) := by decide +kernel
theorem dX8_init_31 : decode cX8_init 31 = .ok (.invokespecial 11, 3) := by decide +kernel
theorem dX8_init_34 : decode cX8_init 34 = .ok (.putfield 19, 3) := by decide +kernel
theorem dX8_init_37 : decode cX8_init 37 = .ok (.aload_n 0, 1) := by decide +kernel
theorem dX8_init_38 : decode cX8_init 38 = .ok (.iconst 0, 1) := by decide +kernel
theorem dX8_init_39 : decode cX8_init 39 = .ok (.putfield 22, 3) := by decide +kernel
theorem dX8_init_42 : decode cX8_init 42 = .ok (.aload_n 0, 1) := by decide +kernel
theorem dX8_init_43 : decode cX8_init 43 = .ok (.new 26, 3) := by decide +kernel
theorem dX8_init_46 : decode cX8_init 46 = .ok (.dup, 1) := by decide +kernel
theorem dX8_init_47 : decode cX8_init 47 = .ok (.invokespecial 28, 3) := by decide +kernel
theorem dX8_init_50 : decode cX8_init 50 = .ok (.putfield 29, 3) := by decide +kernel
theorem dX8_init_53 : decode cX8_init 53 = .ok (.aload_n 0, 1) := by decide +kernel
theorem dX8_init_54 : decode cX8_init 54 = .ok (.new 26, 3) := by decide +kernel
theorem dX8_init_57 : decode cX8_init 57 = .ok (.dup, 1) := by decide +kernel
theorem dX8_init_58 : decode cX8_init 58 = .ok (.invokespecial 28, 3) := by decide +kernel
theorem dX8_init_61 : decode cX8_init 61 = .ok (.putfield 33, 3) := by decide +kernel
theorem dX8_init_64 : decode cX8_init 64 = .ok (.aload_n 0, 1) := by decide +kernel
theorem dX8_init_65 : decode cX8_init 65 = .ok (.new 36, 3) := by decide +kernel
theorem dX8_init_68 : decode cX8_init 68 = .ok (.dup, 1) := by decide +kernel
theorem dX8_init_69 : decode cX8_init 69 = .ok (.invokespecial 38, 3) := by decide +kernel
theorem dX8_init_72 : decode cX8_init 72 = .ok (.putfield 39, 3) := by decide +kernel
theorem dX8_init_75 : decode cX8_init 75 = .ok (.aload_n 0, 1) := by decide +kernel
theorem dX8_init_76 : decode cX8_init 76 = .ok (.new 43, 3) := by decide +kernel
theorem dX8_init_79 : decode cX8_init 79 = .ok (.dup, 1) := by decide +kernel
theorem dX8_init_80 : decode cX8_init 80 = .ok (.invokespecial 45, 3) := by decide +kernel
theorem dX8_init_83 : decode cX8_init 83 = .ok (.putfield 46, 3) := by decide +kernel
theorem dX8_init_86 : decode cX8_init 86 = .ok (.aload_n 0, 1) := by decide +kernel
theorem dX8_init_87 : decode cX8_init 87 = .ok (.new 50, 3) := by decide +kernel
theorem dX8_init_90 : decode cX8_init 90 = .ok (.dup, 1) := by decide +kernel
theorem dX8_init_91 : decode cX8_init 91 = .ok (.invokespecial 52, 3) := by decide +kernel
theorem dX8_init_94 : decode cX8_init 94 = .ok (.putfield 53, 3) := by decide +kernel
theorem dX8_init_97 : decode cX8_init 97 = .ok (.aload_n 0, 1) := by decide +kernel
theorem dX8_init_98 : decode cX8_init 98 = .ok (.new 57, 3) := by decide +kernel
theorem dX8_init_101 : decode cX8_init 101 = .ok (.dup, 1) := by decide +kernel
theorem dX8_init_102 : decode cX8_init 102 = .ok (.invokespecial 59, 3) := by decide +kernel
theorem dX8_init_105 : decode cX8_init 105 = .ok (.putfield 60, 3) := by decide +kernel
theorem dX8_init_108 : decode cX8_init 108 = .ok (.aload_n 0, 1) := by decide +kernel
theorem dX8_init_109 : decode cX8_init 109 = .ok (.iconst 4, 1) := by decide +kernel
theorem dX8_init_110 : decode cX8_init 110 = .ok (.anewarray 64, 3) := by decide +kernel
theorem dX8_init_113 : decode cX8_init 113 = .ok (.putfield 66, 3) := by decide +kernel
theorem dX8_init_116 : decode cX8_init 116 = .ok (.aload_n 0, 1) := by decide +kernel
theorem dX8_init_117 : decode cX8_init 117 = .ok (.bipush 7, 2) := by decide +kernel
theorem dX8_init_119 : decode cX8_init 119 = .ok (.newarray .int, 2) := by decide +kernel
theorem dX8_init_121 : decode cX8_init 121 = .ok (.putfield 70, 3) := by decide +kernel
theorem dX8_init_124 : decode cX8_init 124 = .ok (.iconst 0, 1) := by decide +kernel
theorem dX8_init_125 : decode cX8_init 125 = .ok (.istore_n 1, 1) := by decide +kernel
theorem dX8_init_126 : decode cX8_init 126 = .ok (.iload_n 1, 1) := by decide +kernel
theorem dX8_init_127 : decode cX8_init 127 = .ok (.iconst 4, 1) := by decide +kernel
theorem dX8_init_128 : decode cX8_init 128 = .ok (.if_icmp .ge 22, 3) := by decide +kernel
theorem dX8_init_131 : decode cX8_init 131 = .ok (.aload_n 0, 1) := by decide +kernel
theorem dX8_init_132 : decode cX8_init 132 = .ok (.getfield 66, 3) := by decide +kernel
theorem dX8_init_135 : decode cX8_init 135 = .ok (.iload_n 1, 1) := by decide +kernel
theorem dX8_init_136 : decode cX8_init 136 = .ok (.new 64, 3) := by decide +kernel
theorem dX8_init_139 : decode cX8_init 139 = .ok (.dup, 1) := by decide +kernel
theorem dX8_init_140 : decode cX8_init 140 = .ok (.invokespecial 74, 3) := by decide +kernel
theorem dX8_init_143 : decode cX8_init 143 = .ok (.aastore, 1) := by decide +kernel
theorem dX8_init_144 : decode cX8_init 144 = .ok (.iinc 1 1, 3) := by decide +kernel
theorem dX8_init_147 : decode cX8_init 147 = .ok (.goto (-21), 3) := by decide +kernel
theorem dX8_init_150 : decode cX8_init 150 = .ok (.return_, 1) := by decide +kernel
theorem dX8_isKind_0 : decode cX8_isKind 0 = .ok (.iload_n 0, 1) := by decide +kernel
theorem dX8_isKind_1 : decode cX8_isKind 1 = .ok (.iconst 0, 1) := by decide +kernel
theorem dX8_isKind_2 : decode cX8_isKind 2 = .ok (.bipush 6, 2) := by decide +kernel
theorem dX8_isKind_4 : decode cX8_isKind 4 = .ok (.invokestatic 91, 3) := by decide +kernel
theorem dX8_isKind_7 : decode cX8_isKind 7 = .ok (.ireturn, 1) := by decide +kernel
theorem dX8_isLooped_0 : decode cX8_isLooped 0 = .ok (.aload_n 0, 1) := by decide +kernel
theorem dX8_isLooped_1 : decode cX8_isLooped 1 = .ok (.getfield 29, 3) := by decide +kernel
theorem dX8_isLooped_4 : decode cX8_isLooped 4 = .ok (.aload_n 0, 1) := by decide +kernel
theorem dX8_isLooped_5 : decode cX8_isLooped 5 = .ok (.getfield 12, 3) := by decide +kernel
theorem dX8_isLooped_8 : decode cX8_isLooped 8 = .ok (.invokevirtual 146, 3) := by decide +kernel
theorem dX8_isLooped_11 : decode cX8_isLooped 11 = .ok (.aload_n 0, 1) := by decide +kernel
theorem dX8_isLooped_12 : decode cX8_isLooped 12 = .ok (.getfield 29, 3) := by decide +kernel
theorem dX8_isLooped_15 : decode cX8_isLooped 15 = .ok (.invokevirtual 332, 3) := by decide +kernel
theorem dX8_isLooped_18 : decode cX8_isLooped 18 = .ok (.ireturn, 1) := by decide +kernel
theorem dX8_isSheet_0 : decode cX8_isSheet 0 = .ok (.iload_n 0, 1) := by decide +kernel
theorem dX8_isSheet_1 : decode cX8_isSheet 1 = .ok (.iconst 0, 1) := by decide +kernel
theorem dX8_isSheet_2 : decode cX8_isSheet 2 = .ok (.iconst 3, 1) := by decide +kernel
theorem dX8_isSheet_3 : decode cX8_isSheet 3 = .ok (.invokestatic 91, 3) := by decide +kernel
theorem dX8_isSheet_6 : decode cX8_isSheet 6 = .ok (.ireturn, 1) := by decide +kernel
theorem dX8_isWithin_0 : decode cX8_isWithin 0 = .ok (.iload_n 0, 1) := by decide +kernel
theorem dX8_isWithin_1 : decode cX8_isWithin 1 = .ok (.iload_n 1, 1) := by decide +kernel
theorem dX8_isWithin_2 : decode cX8_isWithin 2 = .ok (.if_icmp .lt 12, 3) := by decide +kernel
theorem dX8_isWithin_5 : decode cX8_isWithin 5 = .ok (.iload_n 0, 1) := by decide +kernel
theorem dX8_isWithin_6 : decode cX8_isWithin 6 = .ok (.iload_n 2, 1) := by decide +kernel
theorem dX8_isWithin_7 : decode cX8_isWithin 7 = .ok (.if_icmp .gt 7, 3) := by decide +kernel
theorem dX8_isWithin_10 : decode cX8_isWithin 10 = .ok (.iconst 1, 1) := by decide +kernel
theorem dX8_isWithin_11 : decode cX8_isWithin 11 = .ok (.goto 4, 3) := by decide +kernel
theorem dX8_isWithin_14 : decode cX8_isWithin 14 = .ok (.iconst 0, 1) := by decide +kernel
theorem dX8_isWithin_15 : decode cX8_isWithin 15 = .ok (.ireturn, 1) := by decide +kernel
theorem dX8_known_0 : decode cX8_known 0 = .ok (.iload_n 1, 1) := by decide +kernel
theorem dX8_known_1 : decode cX8_known 1 = .ok (.ifCond .ne 11, 3) := by decide +kernel
theorem dX8_known_4 : decode cX8_known 4 = .ok (.aload_n 0, 1) := by decide +kernel
theorem dX8_known_5 : decode cX8_known 5 = .ok (.getfield 12, 3) := by decide +kernel
theorem dX8_known_8 : decode cX8_known 8 = .ok (.invokevirtual 247, 3) := by decide +kernel
theorem dX8_known_11 : decode cX8_known 11 = .ok (.ireturn, 1) := by decide +kernel
theorem dX8_known_12 : decode cX8_known 12 = .ok (.iload_n 1, 1) := by decide +kernel
theorem dX8_known_13 : decode cX8_known 13 = .ok (.iconst 1, 1) := by decide +kernel
theorem dX8_known_14 : decode cX8_known 14 = .ok (.if_icmp .ne 11, 3) := by decide +kernel
theorem dX8_known_17 : decode cX8_known 17 = .ok (.aload_n 0, 1) := by decide +kernel
theorem dX8_known_18 : decode cX8_known 18 = .ok (.getfield 12, 3) := by decide +kernel
theorem dX8_known_21 : decode cX8_known 21 = .ok (.invokevirtual 250, 3) := by decide +kernel
theorem dX8_known_24 : decode cX8_known 24 = .ok (.ireturn, 1) := by decide +kernel
theorem dX8_known_25 : decode cX8_known 25 = .ok (.iload_n 1, 1) := by decide +kernel
theorem dX8_known_26 : decode cX8_known 26 = .ok (.iconst 2, 1) := by decide +kernel
theorem dX8_known_27 : decode cX8_known 27 = .ok (.if_icmp .ne 11, 3) := by decide +kernel
theorem dX8_known_30 : decode cX8_known 30 = .ok (.aload_n 0, 1) := by decide +kernel
theorem dX8_known_31 : decode cX8_known 31 = .ok (.getfield 12, 3) := by decide +kernel
theorem dX8_known_34 : decode cX8_known 34 = .ok (.invokevirtual 253, 3) := by decide +kernel
theorem dX8_known_37 : decode cX8_known 37 = .ok (.ireturn, 1) := by decide +kernel
theorem dX8_known_38 : decode cX8_known 38 = .ok (.aload_n 0, 1) := by decide +kernel
theorem dX8_known_39 : decode cX8_known 39 = .ok (.ldc 95, 2) := by decide +kernel
theorem dX8_known_41 : decode cX8_known 41 = .ok (.invokevirtual 80, 3) := by decide +kernel
theorem dX8_known_44 : decode cX8_known 44 = .ok (.ireturn, 1) := by decide +kernel
theorem dX8_land_0 : decode cX8_land 0 = .ok (.aload_n 0, 1) := by decide +kernel
theorem dX8_land_1 : decode cX8_land 1 = .ok (.getfield 19, 3) := by decide +kernel
theorem dX8_land_4 : decode cX8_land 4 = .ok (.aload_n 0, 1) := by decide +kernel
theorem dX8_land_5 : decode cX8_land 5 = .ok (.getfield 12, 3) := by decide +kernel
theorem dX8_land_8 : decode cX8_land 8 = .ok (.invokevirtual 241, 3) := by decide +kernel
theorem dX8_land_11 : decode cX8_land 11 = .ok (.aload_n 0, 1) := by decide +kernel
theorem dX8_land_12 : decode cX8_land 12 = .ok (.getfield 60, 3) := by decide +kernel
theorem dX8_land_15 : decode cX8_land 15 = .ok (.aload_n 0, 1) := by decide +kernel
theorem dX8_land_16 : decode cX8_land 16 = .ok (.getfield 19, 3) := by decide +kernel
theorem dX8_land_19 : decode cX8_land 19 = .ok (.invokevirtual 282, 3) := by decide +kernel
theorem dX8_land_22 : decode cX8_land 22 = .ok (.istore_n 1, 1) := by decide +kernel
theorem dX8_land_23 : decode cX8_land 23 = .ok (.iload_n 1, 1) := by decide +kernel
theorem dX8_land_24 : decode cX8_land 24 = .ok (.ifCond .lt 14, 3) := by decide +kernel
theorem dX8_land_38 : decode cX8_land 38 = .ok (.aload_n 0, 1) := by decide +kernel
theorem dX8_land_39 : decode cX8_land 39 = .ok (.getfield 60, 3) := by decide +kernel
theorem dX8_land_42 : decode cX8_land 42 = .ok (.iconst 0, 1) := by decide +kernel
theorem dX8_land_43 : decode cX8_land 43 = .ok (.putfield 275, 3) := by decide +kernel
theorem dX8_land_46 : decode cX8_land 46 = .ok (.iload_n 1, 1) := by decide +kernel
theorem dX8_land_47 : decode cX8_land 47 = .ok (.ireturn, 1) := by decide +kernel
theorem dX8_lays_0 : decode cX8_lays 0 = .ok (.iload_n 1, 1) := by decide +kernel
theorem dX8_lays_1 : decode cX8_lays 1 = .ok (.invokestatic 285, 3) := by decide +kernel
theorem dX8_lays_4 : decode cX8_lays 4 = .ok (.ifCond .ne 10, 3) := by decide +kernel
theorem dX8_lays_7 : decode cX8_lays 7 = .ok (.aload_n 0, 1) := by decide +kernel
theorem dX8_lays_8 : decode cX8_lays 8 = .ok (.ldc 95, 2) := by decide +kernel
theorem dX8_lays_10 : decode cX8_lays 10 = .ok (.invokevirtual 80, 3) := by decide +kernel
theorem dX8_lays_13 : decode cX8_lays 13 = .ok (.ireturn, 1) := by decide +kernel
theorem dX8_lays_14 : decode cX8_lays 14 = .ok (.aload_n 0, 1) := by decide +kernel
theorem dX8_lays_15 : decode cX8_lays 15 = .ok (.getfield 66, 3) := by decide +kernel
theorem dX8_lays_18 : decode cX8_lays 18 = .ok (.iload_n 1, 1) := by decide +kernel
theorem dX8_lays_19 : decode cX8_lays 19 = .ok (.aaload, 1) := by decide +kernel
theorem dX8_lays_20 : decode cX8_lays 20 = .ok (.invokevirtual 294, 3) := by decide +kernel
theorem dX8_lays_23 : decode cX8_lays 23 = .ok (.ifCond .eq 11, 3) := by decide +kernel
theorem dX8_lays_26 : decode cX8_lays 26 = .ok (.aload_n 0, 1) := by decide +kernel
theorem dX8_lays_27 : decode cX8_lays 27 = .ok (.ldc_w 297, 3) := by decide +kernel
theorem dX8_lays_30 : decode cX8_lays 30 = .ok (.invokevirtual 80, 3) := by decide +kernel
theorem dX8_lays_33 : decode cX8_lays 33 = .ok (.ireturn, 1) := by decide +kernel
theorem dX8_learn_0 : decode cX8_learn 0 = .ok (.aload_n 0, 1) := by decide +kernel
theorem dX8_learn_1 : decode cX8_learn 1 = .ok (.getfield 53, 3) := by decide +kernel
theorem dX8_learn_4 : decode cX8_learn 4 = .ok (.aload_n 0, 1) := by decide +kernel
theorem dX8_learn_5 : decode cX8_learn 5 = .ok (.getfield 12, 3) := by decide +kernel
theorem dX8_learn_8 : decode cX8_learn 8 = .ok (.invokevirtual 238, 3) := by decide +kernel
theorem dX8_learn_11 : decode cX8_learn 11 = .ok (.ireturn, 1) := by decide +kernel
theorem dX8_lies_0 : decode cX8_lies 0 = .ok (.aload_n 0, 1) := by decide +kernel
theorem dX8_lies_1 : decode cX8_lies 1 = .ok (.getfield 19, 3) := by decide +kernel
theorem dX8_lies_4 : decode cX8_lies 4 = .ok (.aload_n 0, 1) := by decide +kernel
theorem dX8_lies_5 : decode cX8_lies 5 = .ok (.getfield 12, 3) := by decide +kernel
theorem dX8_lies_8 : decode cX8_lies 8 = .ok (.invokevirtual 241, 3) := by decide +kernel
theorem dX8_lies_11 : decode cX8_lies 11 = .ok (.aload_n 0, 1) := by decide +kernel
theorem dX8_lies_12 : decode cX8_lies 12 = .ok (.getfield 53, 3) := by decide +kernel
theorem dX8_lies_15 : decode cX8_lies 15 = .ok (.aload_n 0, 1) := by decide +kernel
theorem dX8_lies_16 : decode cX8_lies 16 = .ok (.getfield 19, 3) := by decide +kernel
theorem dX8_lies_19 : decode cX8_lies 19 = .ok (.invokevirtual 238, 3) := by decide +kernel
theorem dX8_lies_22 : decode cX8_lies 22 = .ok (.pop, 1) := by decide +kernel
theorem dX8_lies_23 : decode cX8_lies 23 = .ok (.aload_n 0, 1) := by decide +kernel
theorem dX8_lies_24 : decode cX8_lies 24 = .ok (.getfield 53, 3) := by decide +kernel
theorem dX8_lies_27 : decode cX8_lies 27 = .ok (.getfield 244, 3) := by decide +kernel
theorem dX8_lies_30 : decode cX8_lies 30 = .ok (.ireturn, 1) := by decide +kernel
theorem dX8_live_0 : decode cX8_live 0 = .ok (.aload_n 0, 1) := by decide +kernel
theorem dX8_live_1 : decode cX8_live 1 = .ok (.invokevirtual 128, 3) := by decide +kernel
theorem dX8_live_4 : decode cX8_live 4 = .ok (.ifCond .eq 10, 3) := by decide +kernel
theorem dX8_live_14 : decode cX8_live 14 = .ok (.aload_n 0, 1) := by decide +kernel
theorem dX8_live_15 : decode cX8_live 15 = .ok (.getfield 29, 3) := by decide +kernel
theorem dX8_live_18 : decode cX8_live 18 = .ok (.aload_n 0, 1) := by decide +kernel
theorem dX8_live_19 : decode cX8_live 19 = .ok (.getfield 12, 3) := by decide +kernel
theorem dX8_live_22 : decode cX8_live 22 = .ok (.invokevirtual 197, 3) := by decide +kernel
theorem dX8_live_25 : decode cX8_live 25 = .ok (.istore_n 1, 1) := by decide +kernel
theorem dX8_live_26 : decode cX8_live 26 = .ok (.iload_n 1, 1) := by decide +kernel
theorem dX8_live_27 : decode cX8_live 27 = .ok (.ifCond .ge 12, 3) := by decide +kernel
theorem dX8_live_30 : decode cX8_live 30 = .ok (.aload_n 0, 1) := by decide +kernel
theorem dX8_live_31 : decode cX8_live 31 = .ok (.ldc 113, 2) := by decide +kernel
theorem dX8_live_33 : decode cX8_live 33 = .ok (.invokevirtual 80, 3) := by decide +kernel
theorem dX8_live_36 : decode cX8_live 36 = .ok (.goto 4, 3) := by decide +kernel
theorem dX8_live_40 : decode cX8_live 40 = .ok (.ireturn, 1) := by decide +kernel
theorem dX8_longer_0 : decode cX8_longer 0 = .ok (.aload_n 0, 1) := by decide +kernel
theorem dX8_longer_1 : decode cX8_longer 1 = .ok (.getfield 12, 3) := by decide +kernel
theorem dX8_longer_4 : decode cX8_longer 4 = .ok (.iload_n 1, 1) := by decide +kernel
theorem dX8_longer_5 : decode cX8_longer 5 = .ok (.i2l, 1) := by decide +kernel
theorem dX8_longer_6 : decode cX8_longer 6 = .ok (.invokevirtual 87, 3) := by decide +kernel
theorem dX8_longer_9 : decode cX8_longer 9 = .ok (.ifCond .eq 15, 3) := by decide +kernel
theorem dX8_longer_24 : decode cX8_longer 24 = .ok (.aload_n 0, 1) := by decide +kernel
theorem dX8_longer_25 : decode cX8_longer 25 = .ok (.ldc 95, 2) := by decide +kernel
theorem dX8_longer_27 : decode cX8_longer 27 = .ok (.invokevirtual 80, 3) := by decide +kernel
theorem dX8_longer_30 : decode cX8_longer 30 = .ok (.ireturn, 1) := by decide +kernel
theorem dX8_loops_0 : decode cX8_loops 0 = .ok (.aload_n 0, 1) := by decide +kernel
theorem dX8_loops_1 : decode cX8_loops 1 = .ok (.getfield 29, 3) := by decide +kernel
theorem dX8_loops_4 : decode cX8_loops 4 = .ok (.aload_n 0, 1) := by decide +kernel
theorem dX8_loops_5 : decode cX8_loops 5 = .ok (.getfield 12, 3) := by decide +kernel
theorem dX8_loops_8 : decode cX8_loops 8 = .ok (.invokevirtual 146, 3) := by decide +kernel
theorem dX8_loops_11 : decode cX8_loops 11 = .ok (.aload_n 0, 1) := by decide +kernel
theorem dX8_loops_12 : decode cX8_loops 12 = .ok (.getfield 29, 3) := by decide +kernel
theorem dX8_loops_15 : decode cX8_loops 15 = .ok (.invokevirtual 150, 3) := by decide +kernel
theorem dX8_loops_18 : decode cX8_loops 18 = .ok (.ireturn, 1) := by decide +kernel
theorem dX8_meet_0 : decode cX8_meet 0 = .ok (.aload_n 0, 1) := by decide +kernel
theorem dX8_meet_1 : decode cX8_meet 1 = .ok (.getfield 12, 3) := by decide +kernel
theorem dX8_meet_4 : decode cX8_meet 4 = .ok (.iload_n 1, 1) := by decide +kernel
theorem dX8_meet_5 : decode cX8_meet 5 = .ok (.i2l, 1) := by decide +kernel
theorem dX8_meet_6 : decode cX8_meet 6 = .ok (.invokevirtual 87, 3) := by decide +kernel
theorem dX8_meet_9 : decode cX8_meet 9 = .ok (.ifCond .eq 24, 3) := by decide +kernel
theorem dX8_meet_33 : decode cX8_meet 33 = .ok (.aload_n 0, 1) := by decide +kernel
theorem dX8_meet_34 : decode cX8_meet 34 = .ok (.ldc 95, 2) := by decide +kernel
theorem dX8_meet_36 : decode cX8_meet 36 = .ok (.invokevirtual 80, 3) := by decide +kernel
theorem dX8_meet_39 : decode cX8_meet 39 = .ok (.ireturn, 1) := by decide +kernel
theorem dX8_mend_0 : decode cX8_mend 0 = .ok (.aload_n 0, 1) := by decide +kernel
theorem dX8_mend_1 : decode cX8_mend 1 = .ok (.invokevirtual 128, 3) := by decide +kernel
theorem dX8_mend_4 : decode cX8_mend 4 = .ok (.ifCond .eq 10, 3) := by decide +kernel
theorem dX8_mend_14 : decode cX8_mend 14 = .ok (.aload_n 0, 1) := by decide +kernel
theorem dX8_mend_15 : decode cX8_mend 15 = .ok (.getfield 29, 3) := by decide +kernel
theorem dX8_mend_18 : decode cX8_mend 18 = .ok (.aload_n 0, 1) := by decide +kernel
theorem dX8_mend_19 : decode cX8_mend 19 = .ok (.getfield 12, 3) := by decide +kernel
theorem dX8_mend_22 : decode cX8_mend 22 = .ok (.invokevirtual 263, 3) := by decide +kernel
theorem dX8_mend_25 : decode cX8_mend 25 = .ok (.istore_n 1, 1) := by decide +kernel
theorem dX8_mend_26 : decode cX8_mend 26 = .ok (.iload_n 1, 1) := by decide +kernel
theorem dX8_mend_27 : decode cX8_mend 27 = .ok (.ldc 154, 2) := by decide +kernel
theorem dX8_mend_29 : decode cX8_mend 29 = .ok (.if_icmp .ne 7, 3) := by decide +kernel
theorem dX8_mend_32 : decode cX8_mend 32 = .ok (.iconst (-1), 1) := by decide +kernel
theorem dX8_mend_33 : decode cX8_mend 33 = .ok (.goto 8, 3) := by decide +kernel
theorem dX8_mend_41 : decode cX8_mend 41 = .ok (.istore_n 2, 1) := by decide +kernel
theorem dX8_mend_42 : decode cX8_mend 42 = .ok (.iload_n 2, 1) := by decide +kernel
theorem dX8_mend_43 : decode cX8_mend 43 = .ok (.ifCond .ge 12, 3) := by decide +kernel
theorem dX8_mend_46 : decode cX8_mend 46 = .ok (.aload_n 0, 1) := by decide +kernel
theorem dX8_mend_47 : decode cX8_mend 47 = .ok (.ldc 113, 2) := by decide +kernel
theorem dX8_mend_49 : decode cX8_mend 49 = .ok (.invokevirtual 80, 3) := by decide +kernel
theorem dX8_mend_52 : decode cX8_mend 52 = .ok (.goto 4, 3) := by decide +kernel
theorem dX8_mend_56 : decode cX8_mend 56 = .ok (.ireturn, 1) := by decide +kernel
theorem dX8_on_0 : decode cX8_on 0 = .ok (.aload_n 0, 1) := by decide +kernel
theorem dX8_on_1 : decode cX8_on 1 = .ok (.getfield 12, 3) := by decide +kernel
theorem dX8_on_4 : decode cX8_on 4 = .ok (.getfield 229, 3) := by decide +kernel
theorem dX8_on_7 : decode cX8_on 7 = .ok (.iload_n 1, 1) := by decide +kernel
theorem dX8_on_8 : decode cX8_on 8 = .ok (.invokevirtual 171, 3) := by decide +kernel
theorem dX8_on_11 : decode cX8_on 11 = .ok (.ifCond .eq 30, 3) := by decide +kernel
theorem dX8_on_41 : decode cX8_on 41 = .ok (.aload_n 0, 1) := by decide +kernel
theorem dX8_on_42 : decode cX8_on 42 = .ok (.ldc 95, 2) := by decide +kernel
theorem dX8_on_44 : decode cX8_on 44 = .ok (.invokevirtual 80, 3) := by decide +kernel
theorem dX8_on_47 : decode cX8_on 47 = .ok (.ireturn, 1) := by decide +kernel
theorem dX8_over_0 : decode cX8_over 0 = .ok (.aload_n 0, 1) := by decide +kernel
theorem dX8_over_1 : decode cX8_over 1 = .ok (.getfield 12, 3) := by decide +kernel
theorem dX8_over_4 : decode cX8_over 4 = .ok (.getfield 159, 3) := by decide +kernel
theorem dX8_over_7 : decode cX8_over 7 = .ok (.iload_n 1, 1) := by decide +kernel
theorem dX8_over_8 : decode cX8_over 8 = .ok (.invokevirtual 171, 3) := by decide +kernel
theorem dX8_over_11 : decode cX8_over 11 = .ok (.ifCond .eq 15, 3) := by decide +kernel
theorem dX8_over_26 : decode cX8_over 26 = .ok (.aload_n 0, 1) := by decide +kernel
theorem dX8_over_27 : decode cX8_over 27 = .ok (.ldc 95, 2) := by decide +kernel
theorem dX8_over_29 : decode cX8_over 29 = .ok (.invokevirtual 80, 3) := by decide +kernel
theorem dX8_over_32 : decode cX8_over 32 = .ok (.ireturn, 1) := by decide +kernel
theorem dX8_paper_0 : decode cX8_paper 0 = .ok (.aload_n 0, 1) := by decide +kernel
theorem dX8_paper_1 : decode cX8_paper 1 = .ok (.getfield 12, 3) := by decide +kernel
theorem dX8_paper_4 : decode cX8_paper 4 = .ok (.iload_n 1, 1) := by decide +kernel
theorem dX8_paper_5 : decode cX8_paper 5 = .ok (.iload_n 2, 1) := by decide +kernel
theorem dX8_paper_6 : decode cX8_paper 6 = .ok (.invokevirtual 99, 3) := by decide +kernel
theorem dX8_paper_9 : decode cX8_paper 9 = .ok (.ifCond .ne 10, 3) := by decide +kernel
theorem dX8_paper_12 : decode cX8_paper 12 = .ok (.aload_n 0, 1) := by decide +kernel
theorem dX8_paper_13 : decode cX8_paper 13 = .ok (.ldc 95, 2) := by decide +kernel
theorem dX8_paper_15 : decode cX8_paper 15 = .ok (.invokevirtual 80, 3) := by decide +kernel
theorem dX8_paper_18 : decode cX8_paper 18 = .ok (.ireturn, 1) := by decide +kernel
theorem dX8_place_0 : decode cX8_place 0 = .ok (.aload_n 0, 1) := by decide +kernel
theorem dX8_place_1 : decode cX8_place 1 = .ok (.getfield 12, 3) := by decide +kernel
theorem dX8_place_4 : decode cX8_place 4 = .ok (.getfield 75, 3) := by decide +kernel
theorem dX8_place_7 : decode cX8_place 7 = .ok (.bipush 10, 2) := by decide +kernel
theorem dX8_place_9 : decode cX8_place 9 = .ok (.if_icmp .lt 10, 3) := by decide +kernel
theorem dX8_place_19 : decode cX8_place 19 = .ok (.aload_n 0, 1) := by decide +kernel
theorem dX8_place_20 : decode cX8_place 20 = .ok (.getfield 12, 3) := by decide +kernel
theorem dX8_place_23 : decode cX8_place 23 = .ok (.iconst 0, 1) := by decide +kernel
theorem dX8_place_24 : decode cX8_place 24 = .ok (.invokevirtual 84, 3) := by decide +kernel
theorem dX8_place_27 : decode cX8_place 27 = .ok (.ireturn, 1) := by decide +kernel
theorem dX8_read_0 : decode cX8_read 0 = .ok (.iload_n 1, 1) := by decide +kernel
theorem dX8_read_1 : decode cX8_read 1 = .ok (.invokestatic 285, 3) := by decide +kernel
theorem dX8_read_4 : decode cX8_read 4 = .ok (.ifCond .ne 10, 3) := by decide +kernel
theorem dX8_read_7 : decode cX8_read 7 = .ok (.aload_n 0, 1) := by decide +kernel
theorem dX8_read_8 : decode cX8_read 8 = .ok (.ldc 95, 2) := by decide +kernel
theorem dX8_read_10 : decode cX8_read 10 = .ok (.invokevirtual 80, 3) := by decide +kernel
theorem dX8_read_13 : decode cX8_read 13 = .ok (.ireturn, 1) := by decide +kernel
theorem dX8_read_14 : decode cX8_read 14 = .ok (.aload_n 0, 1) := by decide +kernel
theorem dX8_read_15 : decode cX8_read 15 = .ok (.getfield 66, 3) := by decide +kernel
theorem dX8_read_18 : decode cX8_read 18 = .ok (.iload_n 1, 1) := by decide +kernel
theorem dX8_read_19 : decode cX8_read 19 = .ok (.aaload, 1) := by decide +kernel
theorem dX8_read_20 : decode cX8_read 20 = .ok (.invokevirtual 294, 3) := by decide +kernel
theorem dX8_read_23 : decode cX8_read 23 = .ok (.ifCond .eq 11, 3) := by decide +kernel
theorem dX8_read_26 : decode cX8_read 26 = .ok (.aload_n 0, 1) := by decide +kernel
theorem dX8_read_27 : decode cX8_read 27 = .ok (.ldc_w 297, 3) := by decide +kernel
theorem dX8_read_30 : decode cX8_read 30 = .ok (.invokevirtual 80, 3) := by decide +kernel
theorem dX8_read_33 : decode cX8_read 33 = .ok (.ireturn, 1) := by decide +kernel
theorem dX8_round_0 : decode cX8_round 0 = .ok (.iload_n 1, 1) := by decide +kernel
theorem dX8_round_1 : decode cX8_round 1 = .ok (.invokestatic 155, 3) := by decide +kernel
theorem dX8_round_4 : decode cX8_round 4 = .ok (.ifCond .eq 15, 3) := by decide +kernel
theorem dX8_round_7 : decode cX8_round 7 = .ok (.aload_n 0, 1) := by decide +kernel
theorem dX8_round_8 : decode cX8_round 8 = .ok (.getfield 12, 3) := by decide +kernel
theorem dX8_round_11 : decode cX8_round 11 = .ok (.iload_n 2, 1) := by decide +kernel
theorem dX8_round_12 : decode cX8_round 12 = .ok (.i2l, 1) := by decide +kernel
theorem dX8_round_13 : decode cX8_round 13 = .ok (.invokevirtual 87, 3) := by decide +kernel
theorem dX8_round_16 : decode cX8_round 16 = .ok (.ifCond .ne 10, 3) := by decide +kernel
theorem dX8_round_19 : decode cX8_round 19 = .ok (.aload_n 0, 1) := by decide +kernel
theorem dX8_round_20 : decode cX8_round 20 = .ok (.ldc 95, 2) := by decide +kernel
theorem dX8_round_22 : decode cX8_round 22 = .ok (.invokevirtual 80, 3) := by decide +kernel
theorem dX8_round_25 : decode cX8_round 25 = .ok (.ireturn, 1) := by decide +kernel
theorem dX8_roundOf_0 : decode cX8_roundOf 0 = .ok (.aload_n 0, 1) := by decide +kernel
theorem dX8_roundOf_1 : decode cX8_roundOf 1 = .ok (.getfield 12, 3) := by decide +kernel
theorem dX8_roundOf_4 : decode cX8_roundOf 4 = .ok (.getfield 159, 3) := by decide +kernel
theorem dX8_roundOf_7 : decode cX8_roundOf 7 = .ok (.iload_n 1, 1) := by decide +kernel
theorem dX8_roundOf_8 : decode cX8_roundOf 8 = .ok (.invokevirtual 171, 3) := by decide +kernel
theorem dX8_roundOf_11 : decode cX8_roundOf 11 = .ok (.ifCond .eq 13, 3) := by decide +kernel
theorem dX8_roundOf_24 : decode cX8_roundOf 24 = .ok (.aload_n 0, 1) := by decide +kernel
theorem dX8_roundOf_25 : decode cX8_roundOf 25 = .ok (.ldc 95, 2) := by decide +kernel
theorem dX8_roundOf_27 : decode cX8_roundOf 27 = .ok (.invokevirtual 80, 3) := by decide +kernel
theorem dX8_roundOf_30 : decode cX8_roundOf 30 = .ok (.ireturn, 1) := by decide +kernel
theorem dX8_saves_0 : decode cX8_saves 0 = .ok (.aload_n 0, 1) := by decide +kernel
theorem dX8_saves_1 : decode cX8_saves 1 = .ok (.getfield 12, 3) := by decide +kernel
theorem dX8_saves_4 : decode cX8_saves 4 = .ok (.iload_n 1, 1) := by decide +kernel
theorem dX8_saves_5 : decode cX8_saves 5 = .ok (.iload_n 2, 1) := by decide +kernel
theorem dX8_saves_6 : decode cX8_saves 6 = .ok (.invokevirtual 99, 3) := by decide +kernel
theorem dX8_saves_9 : decode cX8_saves 9 = .ok (.ifCond .ne 10, 3) := by decide +kernel
theorem dX8_saves_12 : decode cX8_saves 12 = .ok (.aload_n 0, 1) := by decide +kernel
theorem dX8_saves_13 : decode cX8_saves 13 = .ok (.ldc 95, 2) := by decide +kernel
theorem dX8_saves_15 : decode cX8_saves 15 = .ok (.invokevirtual 80, 3) := by decide +kernel
theorem dX8_saves_18 : decode cX8_saves 18 = .ok (.ireturn, 1) := by decide +kernel
theorem dX8_sheet_0 : decode cX8_sheet 0 = .ok (.iload_n 1, 1) := by decide +kernel
theorem dX8_sheet_1 : decode cX8_sheet 1 = .ok (.invokestatic 285, 3) := by decide +kernel
theorem dX8_sheet_4 : decode cX8_sheet 4 = .ok (.ifCond .eq 25, 3) := by decide +kernel
theorem dX8_sheet_7 : decode cX8_sheet 7 = .ok (.iload_n 2, 1) := by decide +kernel
theorem dX8_sheet_8 : decode cX8_sheet 8 = .ok (.ifCond .eq 28, 3) := by decide +kernel
theorem dX8_sheet_11 : decode cX8_sheet 11 = .ok (.iload_n 2, 1) := by decide +kernel
theorem dX8_sheet_12 : decode cX8_sheet 12 = .ok (.bipush 8, 2) := by decide +kernel
theorem dX8_sheet_14 : decode cX8_sheet 14 = .ok (.if_icmp .eq 22, 3) := by decide +kernel
theorem dX8_sheet_17 : decode cX8_sheet 17 = .ok (.iload_n 2, 1) := by decide +kernel
theorem dX8_sheet_18 : decode cX8_sheet 18 = .ok (.bipush 16, 2) := by decide +kernel
theorem dX8_sheet_20 : decode cX8_sheet 20 = .ok (.if_icmp .eq 16, 3) := by decide +kernel
theorem dX8_sheet_23 : decode cX8_sheet 23 = .ok (.iload_n 2, 1) := by decide +kernel
theorem dX8_sheet_24 : decode cX8_sheet 24 = .ok (.bipush 64, 2) := by decide +kernel
theorem dX8_sheet_26 : decode cX8_sheet 26 = .ok (.if_icmp .eq 10, 3) := by decide +kernel
theorem dX8_sheet_29 : decode cX8_sheet 29 = .ok (.aload_n 0, 1) := by decide +kernel
theorem dX8_sheet_30 : decode cX8_sheet 30 = .ok (.ldc 95, 2) := by decide +kernel
theorem dX8_sheet_32 : decode cX8_sheet 32 = .ok (.invokevirtual 80, 3) := by decide +kernel
theorem dX8_sheet_35 : decode cX8_sheet 35 = .ok (.ireturn, 1) := by decide +kernel
theorem dX8_sheet_36 : decode cX8_sheet 36 = .ok (.iload_n 3, 1) := by decide +kernel
theorem dX8_sheet_37 : decode cX8_sheet 37 = .ok (.ifCond .ge 11, 3) := by decide +kernel
theorem dX8_sheet_40 : decode cX8_sheet 40 = .ok (.aload_n 0, 1) := by decide +kernel
theorem dX8_sheet_41 : decode cX8_sheet 41 = .ok (.ldc_w 288, 3) := by decide +kernel
theorem dX8_sheet_44 : decode cX8_sheet 44 = .ok (.invokevirtual 80, 3) := by decide +kernel
theorem dX8_sheet_47 : decode cX8_sheet 47 = .ok (.ireturn, 1) := by decide +kernel
theorem dX8_sheet_48 : decode cX8_sheet 48 = .ok (.iload_n 3, 1) := by decide +kernel
theorem dX8_sheet_49 : decode cX8_sheet 49 = .ok (.bipush 40, 2) := by decide +kernel
theorem dX8_sheet_51 : decode cX8_sheet 51 = .ok (.if_icmp .le 10, 3) := by decide +kernel
theorem dX8_sheet_54 : decode cX8_sheet 54 = .ok (.aload_n 0, 1) := by decide +kernel
theorem dX8_sheet_55 : decode cX8_sheet 55 = .ok (.ldc 95, 2) := by decide +kernel
theorem dX8_sheet_57 : decode cX8_sheet 57 = .ok (.invokevirtual 80, 3) := by decide +kernel
theorem dX8_sheet_60 : decode cX8_sheet 60 = .ok (.ireturn, 1) := by decide +kernel
theorem dX8_sheet_61 : decode cX8_sheet 61 = .ok (.aload_n 0, 1) := by decide +kernel
theorem dX8_sheet_62 : decode cX8_sheet 62 = .ok (.getfield 66, 3) := by decide +kernel
theorem dX8_sheet_65 : decode cX8_sheet 65 = .ok (.iload_n 1, 1) := by decide +kernel
theorem dX8_sheet_66 : decode cX8_sheet 66 = .ok (.aaload, 1) := by decide +kernel
theorem dX8_sheet_67 : decode cX8_sheet 67 = .ok (.iload_n 2, 1) := by decide +kernel
theorem dX8_sheet_68 : decode cX8_sheet 68 = .ok (.iload_n 2, 1) := by decide +kernel
theorem dX8_sheet_69 : decode cX8_sheet 69 = .ok (.ifCond .ne 7, 3) := by decide +kernel
theorem dX8_sheet_72 : decode cX8_sheet 72 = .ok (.iconst 0, 1) := by decide +kernel
theorem dX8_sheet_73 : decode cX8_sheet 73 = .ok (.goto 4, 3) := by decide +kernel
theorem dX8_sheet_76 : decode cX8_sheet 76 = .ok (.iload_n 3, 1) := by decide +kernel
theorem dX8_sheet_77 : decode cX8_sheet 77 = .ok (.invokevirtual 289, 3) := by decide +kernel
theorem dX8_sheet_80 : decode cX8_sheet 80 = .ok (.aload_n 0, 1) := by decide +kernel
theorem dX8_sheet_81 : decode cX8_sheet 81 = .ok (.getfield 66, 3) := by decide +kernel
theorem dX8_sheet_84 : decode cX8_sheet 84 = .ok (.iload_n 1, 1) := by decide +kernel
theorem dX8_sheet_85 : decode cX8_sheet 85 = .ok (.aaload, 1) := by decide +kernel
theorem dX8_sheet_86 : decode cX8_sheet 86 = .ok (.getfield 293, 3) := by decide +kernel
theorem dX8_sheet_89 : decode cX8_sheet 89 = .ok (.ireturn, 1) := by decide +kernel
theorem dX8_shut_0 : decode cX8_shut 0 = .ok (.aload_n 0, 1) := by decide +kernel
theorem dX8_shut_1 : decode cX8_shut 1 = .ok (.getfield 12, 3) := by decide +kernel
theorem dX8_shut_4 : decode cX8_shut 4 = .ok (.iload_n 1, 1) := by decide +kernel
theorem dX8_shut_5 : decode cX8_shut 5 = .ok (.iload_n 2, 1) := by decide +kernel
theorem dX8_shut_6 : decode cX8_shut 6 = .ok (.invokevirtual 99, 3) := by decide +kernel
theorem dX8_shut_9 : decode cX8_shut 9 = .ok (.ifCond .ne 10, 3) := by decide +kernel
theorem dX8_shut_12 : decode cX8_shut 12 = .ok (.aload_n 0, 1) := by decide +kernel
theorem dX8_shut_13 : decode cX8_shut 13 = .ok (.ldc 95, 2) := by decide +kernel
theorem dX8_shut_15 : decode cX8_shut 15 = .ok (.invokevirtual 80, 3) := by decide +kernel
theorem dX8_shut_18 : decode cX8_shut 18 = .ok (.ireturn, 1) := by decide +kernel
theorem dX8_status_0 : decode cX8_status 0 = .ok (.iload_n 1, 1) := by decide +kernel
theorem dX8_status_1 : decode cX8_status 1 = .ok (.iconst (-1), 1) := by decide +kernel
theorem dX8_status_2 : decode cX8_status 2 = .ok (.bipush 6, 2) := by decide +kernel
theorem dX8_status_4 : decode cX8_status 4 = .ok (.invokestatic 91, 3) := by decide +kernel
theorem dX8_status_7 : decode cX8_status 7 = .ok (.ifCond .ne 10, 3) := by decide +kernel
theorem dX8_status_10 : decode cX8_status 10 = .ok (.aload_n 0, 1) := by decide +kernel
theorem dX8_status_11 : decode cX8_status 11 = .ok (.ldc 95, 2) := by decide +kernel
theorem dX8_status_13 : decode cX8_status 13 = .ok (.invokevirtual 80, 3) := by decide +kernel
theorem dX8_status_16 : decode cX8_status 16 = .ok (.ireturn, 1) := by decide +kernel
theorem dX8_status_17 : decode cX8_status 17 = .ok (.iload_n 1, 1) := by decide +kernel
theorem dX8_status_18 : decode cX8_status 18 = .ok (.ifCond .lt 10, 3) := by decide +kernel
theorem dX8_status_21 : decode cX8_status 21 = .ok (.aload_n 0, 1) := by decide +kernel
theorem dX8_status_22 : decode cX8_status 22 = .ok (.getfield 70, 3) := by decide +kernel
theorem dX8_status_25 : decode cX8_status 25 = .ok (.iload_n 1, 1) := by decide +kernel
theorem dX8_status_26 : decode cX8_status 26 = .ok (.iaload, 1) := by decide +kernel
theorem dX8_status_27 : decode cX8_status 27 = .ok (.ireturn, 1) := by decide +kernel
theorem dX8_status_28 : decode cX8_status 28 = .ok (.iconst 0, 1) := by decide +kernel
theorem dX8_status_29 : decode cX8_status 29 = .ok (.istore_n 2, 1) := by decide +kernel
theorem dX8_status_30 : decode cX8_status 30 = .ok (.iconst 0, 1) := by decide +kernel
theorem dX8_status_31 : decode cX8_status 31 = .ok (.istore_n 3, 1) := by decide +kernel
theorem dX8_status_32 : decode cX8_status 32 = .ok (.iload_n 3, 1) := by decide +kernel
theorem dX8_status_33 : decode cX8_status 33 = .ok (.bipush 7, 2) := by decide +kernel
theorem dX8_status_35 : decode cX8_status 35 = .ok (.if_icmp .ge 18, 3) := by decide +kernel
theorem dX8_status_38 : decode cX8_status 38 = .ok (.iload_n 2, 1) := by decide +kernel
theorem dX8_status_39 : decode cX8_status 39 = .ok (.aload_n 0, 1) := by decide +kernel
theorem dX8_status_40 : decode cX8_status 40 = .ok (.getfield 70, 3) := by decide +kernel
theorem dX8_status_43 : decode cX8_status 43 = .ok (.iload_n 3, 1) := by decide +kernel
theorem dX8_status_44 : decode cX8_status 44 = .ok (.iaload, 1) := by decide +kernel
theorem dX8_status_45 : decode cX8_status 45 = .ok (.iadd, 1) := by decide +kernel
theorem dX8_status_46 : decode cX8_status 46 = .ok (.istore_n 2, 1) := by decide +kernel
theorem dX8_status_47 : decode cX8_status 47 = .ok (.iinc 3 1, 3) := by decide +kernel
theorem dX8_status_50 : decode cX8_status 50 = .ok (.goto (-18), 3) := by decide +kernel
theorem dX8_status_53 : decode cX8_status 53 = .ok (.iload_n 2, 1) := by decide +kernel
theorem dX8_status_54 : decode cX8_status 54 = .ok (.ireturn, 1) := by decide +kernel
theorem dX8_sum_0 : decode cX8_sum 0 = .ok (.aload_n 0, 1) := by decide +kernel
theorem dX8_sum_1 : decode cX8_sum 1 = .ok (.getfield 12, 3) := by decide +kernel
theorem dX8_sum_4 : decode cX8_sum 4 = .ok (.getfield 159, 3) := by decide +kernel
theorem dX8_sum_7 : decode cX8_sum 7 = .ok (.iload_n 1, 1) := by decide +kernel
theorem dX8_sum_8 : decode cX8_sum 8 = .ok (.invokevirtual 171, 3) := by decide +kernel
theorem dX8_sum_11 : decode cX8_sum 11 = .ok (.ifCond .ne 10, 3) := by decide +kernel
theorem dX8_sum_14 : decode cX8_sum 14 = .ok (.aload_n 0, 1) := by decide +kernel
theorem dX8_sum_15 : decode cX8_sum 15 = .ok (.ldc 95, 2) := by decide +kernel
theorem dX8_sum_17 : decode cX8_sum 17 = .ok (.invokevirtual 80, 3) := by decide +kernel
theorem dX8_sum_20 : decode cX8_sum 20 = .ok (.ireturn, 1) := by decide +kernel
theorem dX8_tear_0 : decode cX8_tear 0 = .ok (.aload_n 0, 1) := by decide +kernel
theorem dX8_tear_1 : decode cX8_tear 1 = .ok (.getfield 22, 3) := by decide +kernel
theorem dX8_tear_4 : decode cX8_tear 4 = .ok (.ifCond .eq 7, 3) := by decide +kernel
theorem dX8_tear_11 : decode cX8_tear 11 = .ok (.iconst 0, 1) := by decide +kernel
theorem dX8_tear_12 : decode cX8_tear 12 = .ok (.istore_n 1, 1) := by decide +kernel
theorem dX8_tear_13 : decode cX8_tear 13 = .ok (.aload_n 0, 1) := by decide +kernel
theorem dX8_tear_14 : decode cX8_tear 14 = .ok (.iconst 0, 1) := by decide +kernel
theorem dX8_tear_15 : decode cX8_tear 15 = .ok (.putfield 22, 3) := by decide +kernel
theorem dX8_tear_18 : decode cX8_tear 18 = .ok (.iload_n 1, 1) := by decide +kernel
theorem dX8_tear_19 : decode cX8_tear 19 = .ok (.ireturn, 1) := by decide +kernel
theorem dX8_trip_0 : decode cX8_trip 0 = .ok (.aload_n 0, 1) := by decide +kernel
theorem dX8_trip_1 : decode cX8_trip 1 = .ok (.getfield 12, 3) := by decide +kernel
theorem dX8_trip_4 : decode cX8_trip 4 = .ok (.iload_n 1, 1) := by decide +kernel
theorem dX8_trip_5 : decode cX8_trip 5 = .ok (.i2l, 1) := by decide +kernel
theorem dX8_trip_6 : decode cX8_trip 6 = .ok (.invokevirtual 87, 3) := by decide +kernel
theorem dX8_trip_9 : decode cX8_trip 9 = .ok (.ifCond .ne 10, 3) := by decide +kernel
theorem dX8_trip_12 : decode cX8_trip 12 = .ok (.aload_n 0, 1) := by decide +kernel
theorem dX8_trip_13 : decode cX8_trip 13 = .ok (.ldc 95, 2) := by decide +kernel
theorem dX8_trip_15 : decode cX8_trip 15 = .ok (.invokevirtual 80, 3) := by decide +kernel
theorem dX8_trip_18 : decode cX8_trip 18 = .ok (.ireturn, 1) := by decide +kernel
theorem dX8_undo_0 : decode cX8_undo 0 = .ok (.aload_n 0, 1) := by decide +kernel
theorem dX8_undo_1 : decode cX8_undo 1 = .ok (.getfield 22, 3) := by decide +kernel
theorem dX8_undo_4 : decode cX8_undo 4 = .ok (.ifCond .ne 10, 3) := by decide +kernel
theorem dX8_undo_7 : decode cX8_undo 7 = .ok (.aload_n 0, 1) := by decide +kernel
theorem dX8_undo_8 : decode cX8_undo 8 = .ok (.ldc 113, 2) := by decide +kernel
theorem dX8_undo_10 : decode cX8_undo 10 = .ok (.invokevirtual 80, 3) := by decide +kernel
theorem dX8_undo_13 : decode cX8_undo 13 = .ok (.ireturn, 1) := by decide +kernel
theorem dX8_walk_0 : decode cX8_walk 0 = .ok (.aload_n 0, 1) := by decide +kernel
theorem dX8_walk_1 : decode cX8_walk 1 = .ok (.getfield 12, 3) := by decide +kernel
theorem dX8_walk_4 : decode cX8_walk 4 = .ok (.iload_n 1, 1) := by decide +kernel
theorem dX8_walk_5 : decode cX8_walk 5 = .ok (.iload_n 2, 1) := by decide +kernel
theorem dX8_walk_6 : decode cX8_walk 6 = .ok (.invokevirtual 99, 3) := by decide +kernel
theorem dX8_walk_9 : decode cX8_walk 9 = .ok (.ifCond .eq 27, 3) := by decide +kernel
theorem dX8_walk_36 : decode cX8_walk 36 = .ok (.aload_n 0, 1) := by decide +kernel
theorem dX8_walk_37 : decode cX8_walk 37 = .ok (.ldc 95, 2) := by decide +kernel
theorem dX8_walk_39 : decode cX8_walk 39 = .ok (.invokevirtual 80, 3) := by decide +kernel
theorem dX8_walk_42 : decode cX8_walk 42 = .ok (.ireturn, 1) := by decide +kernel
theorem dX8_way_0 : decode cX8_way 0 = .ok (.aload_n 0, 1) := by decide +kernel
theorem dX8_way_1 : decode cX8_way 1 = .ok (.getfield 12, 3) := by decide +kernel
theorem dX8_way_4 : decode cX8_way 4 = .ok (.iload_n 1, 1) := by decide +kernel
theorem dX8_way_5 : decode cX8_way 5 = .ok (.iload_n 2, 1) := by decide +kernel
theorem dX8_way_6 : decode cX8_way 6 = .ok (.invokevirtual 99, 3) := by decide +kernel
theorem dX8_way_9 : decode cX8_way 9 = .ok (.ifCond .eq 12, 3) := by decide +kernel
theorem dX8_way_21 : decode cX8_way 21 = .ok (.aload_n 0, 1) := by decide +kernel
theorem dX8_way_22 : decode cX8_way 22 = .ok (.ldc 95, 2) := by decide +kernel
theorem dX8_way_24 : decode cX8_way 24 = .ok (.invokevirtual 80, 3) := by decide +kernel
theorem dX8_way_27 : decode cX8_way 27 = .ok (.ireturn, 1) := by decide +kernel
theorem dX8_wayOf_0 : decode cX8_wayOf 0 = .ok (.aload_n 0, 1) := by decide +kernel
theorem dX8_wayOf_1 : decode cX8_wayOf 1 = .ok (.getfield 12, 3) := by decide +kernel
theorem dX8_wayOf_4 : decode cX8_wayOf 4 = .ok (.iload_n 1, 1) := by decide +kernel
theorem dX8_wayOf_5 : decode cX8_wayOf 5 = .ok (.iload_n 2, 1) := by decide +kernel
theorem dX8_wayOf_6 : decode cX8_wayOf 6 = .ok (.invokevirtual 99, 3) := by decide +kernel
theorem dX8_wayOf_9 : decode cX8_wayOf 9 = .ok (.ifCond .eq 12, 3) := by decide +kernel
theorem dX8_wayOf_21 : decode cX8_wayOf 21 = .ok (.aload_n 0, 1) := by decide +kernel
theorem dX8_wayOf_22 : decode cX8_wayOf 22 = .ok (.ldc 95, 2) := by decide +kernel
theorem dX8_wayOf_24 : decode cX8_wayOf 24 = .ok (.invokevirtual 80, 3) := by decide +kernel
theorem dX8_wayOf_27 : decode cX8_wayOf 27 = .ok (.ireturn, 1) := by decide +kernel
theorem dX8_wipe_0 : decode cX8_wipe 0 = .ok (.aload_n 0, 1) := by decide +kernel
theorem dX8_wipe_1 : decode cX8_wipe 1 = .ok (.getfield 60, 3) := by decide +kernel
theorem dX8_wipe_4 : decode cX8_wipe 4 = .ok (.getfield 275, 3) := by decide +kernel
theorem dX8_wipe_7 : decode cX8_wipe 7 = .ok (.istore_n 1, 1) := by decide +kernel
theorem dX8_wipe_8 : decode cX8_wipe 8 = .ok (.aload_n 0, 1) := by decide +kernel
theorem dX8_wipe_9 : decode cX8_wipe 9 = .ok (.getfield 60, 3) := by decide +kernel
theorem dX8_wipe_12 : decode cX8_wipe 12 = .ok (.iconst 0, 1) := by decide +kernel
theorem dX8_wipe_13 : decode cX8_wipe 13 = .ok (.putfield 275, 3) := by decide +kernel
theorem dX8_wipe_16 : decode cX8_wipe 16 = .ok (.iload_n 1, 1) := by decide +kernel
theorem dX8_wipe_17 : decode cX8_wipe 17 = .ok (.ireturn, 1) := by decide +kernel
theorem dX8_worst_0 : decode cX8_worst 0 = .ok (.aload_n 0, 1) := by decide +kernel
theorem dX8_worst_1 : decode cX8_worst 1 = .ok (.getfield 12, 3) := by decide +kernel
theorem dX8_worst_4 : decode cX8_worst 4 = .ok (.invokestatic 226, 3) := by decide +kernel
theorem dX8_worst_7 : decode cX8_worst 7 = .ok (.istore_n 1, 1) := by decide +kernel
theorem dX8_worst_8 : decode cX8_worst 8 = .ok (.iload_n 1, 1) := by decide +kernel
theorem dX8_worst_9 : decode cX8_worst 9 = .ok (.ifCond .ge 12, 3) := by decide +kernel
theorem dX8_worst_12 : decode cX8_worst 12 = .ok (.aload_n 0, 1) := by decide +kernel
theorem dX8_worst_13 : decode cX8_worst 13 = .ok (.ldc 113, 2) := by decide +kernel
theorem dX8_worst_15 : decode cX8_worst 15 = .ok (.invokevirtual 80, 3) := by decide +kernel
theorem dX8_worst_18 : decode cX8_worst 18 = .ok (.goto 4, 3) := by decide +kernel
theorem dX8_worst_22 : decode cX8_worst 22 = .ok (.ireturn, 1) := by decide +kernel
theorem dX8_write_0 : decode cX8_write 0 = .ok (.iload_n 1, 1) := by decide +kernel
theorem dX8_write_1 : decode cX8_write 1 = .ok (.invokestatic 285, 3) := by decide +kernel
theorem dX8_write_4 : decode cX8_write 4 = .ok (.ifCond .ne 11, 3) := by decide +kernel
theorem dX8_write_7 : decode cX8_write 7 = .ok (.aload_n 0, 1) := by decide +kernel
theorem dX8_write_8 : decode cX8_write 8 = .ok (.ldc 95, 2) := by decide +kernel
theorem dX8_write_10 : decode cX8_write 10 = .ok (.invokevirtual 80, 3) := by decide +kernel
theorem dX8_write_13 : decode cX8_write 13 = .ok (.i2l, 1) := by decide +kernel
theorem dX8_write_14 : decode cX8_write 14 = .ok (.lreturn, 1) := by decide +kernel
theorem dX8_write_15 : decode cX8_write 15 = .ok (.aload_n 0, 1) := by decide +kernel
theorem dX8_write_16 : decode cX8_write 16 = .ok (.getfield 66, 3) := by decide +kernel
theorem dX8_write_19 : decode cX8_write 19 = .ok (.iload_n 1, 1) := by decide +kernel
theorem dX8_write_20 : decode cX8_write 20 = .ok (.aaload, 1) := by decide +kernel
theorem dX8_write_21 : decode cX8_write 21 = .ok (.astore 5, 2) := by decide +kernel
theorem dX8_write_23 : decode cX8_write 23 = .ok (.aload 5, 2) := by decide +kernel
theorem dX8_write_25 : decode cX8_write 25 = .ok (.invokevirtual 294, 3) := by decide +kernel
theorem dX8_write_28 : decode cX8_write 28 = .ok (.ifCond .eq 12, 3) := by decide +kernel
theorem dX8_write_31 : decode cX8_write 31 = .ok (.aload_n 0, 1) := by decide +kernel
theorem dX8_write_32 : decode cX8_write 32 = .ok (.ldc_w 297, 3) := by decide +kernel
theorem dX8_write_35 : decode cX8_write 35 = .ok (.invokevirtual 80, 3) := by decide +kernel
theorem dX8_write_38 : decode cX8_write 38 = .ok (.i2l, 1) := by decide +kernel
theorem dX8_write_39 : decode cX8_write 39 = .ok (.lreturn, 1) := by decide +kernel
theorem dX9_areTwo_0 : decode cX9_areTwo 0 = .ok (.aload_n 0, 1) := by decide +kernel
theorem dX9_areTwo_1 : decode cX9_areTwo 1 = .ok (.iload_n 1, 1) := by decide +kernel
theorem dX9_areTwo_2 : decode cX9_areTwo 2 = .ok (.invokevirtual 61, 3) := by decide +kernel
theorem dX9_areTwo_5 : decode cX9_areTwo 5 = .ok (.ifCond .eq 20, 3) := by decide +kernel
theorem dX9_areTwo_25 : decode cX9_areTwo 25 = .ok (.iconst 0, 1) := by decide +kernel
theorem dX9_areTwo_26 : decode cX9_areTwo 26 = .ok (.ireturn, 1) := by decide +kernel
theorem dX9_as_0 : decode cX9_as 0 = .ok (.aload_n 0, 1) := by decide +kernel
theorem dX9_as_1 : decode cX9_as 1 = .ok (.iload_n 1, 1) := by decide +kernel
theorem dX9_as_2 : decode cX9_as 2 = .ok (.invokevirtual 123, 3) := by decide +kernel
theorem dX9_as_5 : decode cX9_as 5 = .ok (.ifCond .eq 15, 3) := by decide +kernel
theorem dX9_as_20 : decode cX9_as 20 = .ok (.aload_n 0, 1) := by decide +kernel
theorem dX9_as_21 : decode cX9_as 21 = .ok (.ldc 56, 2) := by decide +kernel
theorem dX9_as_23 : decode cX9_as 23 = .ok (.invokevirtual 70, 3) := by decide +kernel
theorem dX9_as_26 : decode cX9_as 26 = .ok (.ireturn, 1) := by decide +kernel
theorem dX9_ask_0 : decode cX9_ask 0 = .ok (.iconst (-1), 1) := by decide +kernel
theorem dX9_ask_1 : decode cX9_ask 1 = .ok (.istore_n 1, 1) := by decide +kernel
theorem dX9_ask_2 : decode cX9_ask 2 = .ok (.iconst 0, 1) := by decide +kernel
theorem dX9_ask_3 : decode cX9_ask 3 = .ok (.istore_n 2, 1) := by decide +kernel
theorem dX9_ask_4 : decode cX9_ask 4 = .ok (.iconst 0, 1) := by decide +kernel
theorem dX9_ask_5 : decode cX9_ask 5 = .ok (.istore_n 3, 1) := by decide +kernel
theorem dX9_ask_6 : decode cX9_ask 6 = .ok (.iload_n 3, 1) := by decide +kernel
theorem dX9_ask_7 : decode cX9_ask 7 = .ok (.bipush 100, 2) := by decide +kernel
theorem dX9_ask_9 : decode cX9_ask 9 = .ok (.if_icmp .ge 26, 3) := by decide +kernel
theorem dX9_ask_12 : decode cX9_ask 12 = .ok (.aload_n 0, 1) := by decide +kernel
theorem dX9_ask_13 : decode cX9_ask 13 = .ok (.iload_n 3, 1) := by decide +kernel
theorem dX9_ask_14 : decode cX9_ask 14 = .ok (.invokevirtual 223, 3) := by decide +kernel
theorem dX9_ask_17 : decode cX9_ask 17 = .ok (.iload_n 2, 1) := by decide +kernel
theorem dX9_ask_18 : decode cX9_ask 18 = .ok (.if_icmp .le 11, 3) := by decide +kernel
theorem dX9_ask_29 : decode cX9_ask 29 = .ok (.iinc 3 1, 3) := by decide +kernel
theorem dX9_ask_32 : decode cX9_ask 32 = .ok (.goto (-26), 3) := by decide +kernel
theorem dX9_ask_35 : decode cX9_ask 35 = .ok (.iload_n 1, 1) := by decide +kernel
theorem dX9_ask_36 : decode cX9_ask 36 = .ok (.ifCond .ge 12, 3) := by decide +kernel
theorem dX9_ask_39 : decode cX9_ask 39 = .ok (.aload_n 0, 1) := by decide +kernel
theorem dX9_ask_40 : decode cX9_ask 40 = .ok (.ldc 96, 2) := by decide +kernel
theorem dX9_ask_42 : decode cX9_ask 42 = .ok (.invokevirtual 70, 3) := by decide +kernel
theorem dX9_ask_45 : decode cX9_ask 45 = .ok (.goto 4, 3) := by decide +kernel
theorem dX9_ask_49 : decode cX9_ask 49 = .ok (.ireturn, 1) := by decide +kernel
theorem dX9_between_0 : decode cX9_between 0 = .ok (.aload_n 0, 1) := by decide +kernel
theorem dX9_between_1 : decode cX9_between 1 = .ok (.getfield 7, 3) := by decide +kernel
theorem dX9_between_4 : decode cX9_between 4 = .ok (.sipush 213, 3) := by decide +kernel
theorem dX9_between_7 : decode cX9_between 7 = .ok (.iload_n 1, 1) := by decide +kernel
theorem dX9_between_8 : decode cX9_between 8 = .ok (.iadd, 1) := by decide +kernel
theorem dX9_between_9 : decode cX9_between 9 = .ok (.iaload, 1) := by decide +kernel
theorem dX9_between_10 : decode cX9_between 10 = .ok (.ifCond .le 25, 3) := by decide +kernel
theorem dX9_between_35 : decode cX9_between 35 = .ok (.iconst (-1), 1) := by decide +kernel
theorem dX9_between_36 : decode cX9_between 36 = .ok (.ireturn, 1) := by decide +kernel
theorem dX9_by_0 : decode cX9_by 0 = .ok (.aload_n 0, 1) := by decide +kernel
theorem dX9_by_1 : decode cX9_by 1 = .ok (.iload_n 1, 1) := by decide +kernel
theorem dX9_by_2 : decode cX9_by 2 = .ok (.invokevirtual 61, 3) := by decide +kernel
theorem dX9_by_5 : decode cX9_by 5 = .ok (.ifCond .eq 25, 3) := by decide +kernel
theorem dX9_by_30 : decode cX9_by 30 = .ok (.aload_n 0, 1) := by decide +kernel
theorem dX9_by_31 : decode cX9_by 31 = .ok (.ldc 56, 2) := by decide +kernel
theorem dX9_by_33 : decode cX9_by 33 = .ok (.invokevirtual 70, 3) := by decide +kernel
theorem dX9_by_36 : decode cX9_by 36 = .ok (.ireturn, 1) := by decide +kernel
theorem dX9_byteAt_0 : decode cX9_byteAt 0 = .ok (.iload_n 1, 1) := by decide +kernel
theorem dX9_byteAt_1 : decode cX9_byteAt 1 = .ok (.aload_n 0, 1) := by decide +kernel
theorem dX9_byteAt_2 : decode cX9_byteAt 2 = .ok (.getfield 240, 3) := by decide +kernel
theorem dX9_byteAt_5 : decode cX9_byteAt 5 = .ok (.if_icmp .ge 12, 3) := by decide +kernel
theorem dX9_byteAt_17 : decode cX9_byteAt 17 = .ok (.iconst (-1), 1) := by decide +kernel
theorem dX9_byteAt_18 : decode cX9_byteAt 18 = .ok (.ireturn, 1) := by decide +kernel
theorem dX9_copy_0 : decode cX9_copy 0 = .ok (.iload_n 1, 1) := by decide +kernel
theorem dX9_copy_1 : decode cX9_copy 1 = .ok (.invokestatic 305, 3) := by decide +kernel
theorem dX9_copy_4 : decode cX9_copy 4 = .ok (.ifCond .eq 10, 3) := by decide +kernel
theorem dX9_copy_7 : decode cX9_copy 7 = .ok (.iload_n 3, 1) := by decide +kernel
theorem dX9_copy_8 : decode cX9_copy 8 = .ok (.invokestatic 305, 3) := by decide +kernel
theorem dX9_copy_11 : decode cX9_copy 11 = .ok (.ifCond .ne 10, 3) := by decide +kernel
theorem dX9_copy_14 : decode cX9_copy 14 = .ok (.aload_n 0, 1) := by decide +kernel
theorem dX9_copy_15 : decode cX9_copy 15 = .ok (.ldc 56, 2) := by decide +kernel
theorem dX9_copy_17 : decode cX9_copy 17 = .ok (.invokevirtual 70, 3) := by decide +kernel
theorem dX9_copy_20 : decode cX9_copy 20 = .ok (.ireturn, 1) := by decide +kernel
theorem dX9_copy_21 : decode cX9_copy 21 = .ok (.aload_n 0, 1) := by decide +kernel
theorem dX9_copy_22 : decode cX9_copy 22 = .ok (.getfield 43, 3) := by decide +kernel
theorem dX9_copy_25 : decode cX9_copy 25 = .ok (.iload_n 1, 1) := by decide +kernel
theorem dX9_copy_26 : decode cX9_copy 26 = .ok (.iaload, 1) := by decide +kernel
theorem dX9_copy_27 : decode cX9_copy 27 = .ok (.ifCond .eq 12, 3) := by decide +kernel
theorem dX9_copy_39 : decode cX9_copy 39 = .ok (.aload_n 0, 1) := by decide +kernel
theorem dX9_copy_40 : decode cX9_copy 40 = .ok (.ldc_w 309, 3) := by decide +kernel
theorem dX9_copy_43 : decode cX9_copy 43 = .ok (.invokevirtual 70, 3) := by decide +kernel
theorem dX9_copy_46 : decode cX9_copy 46 = .ok (.ireturn, 1) := by decide +kernel
theorem dX9_count_0 : decode cX9_count 0 = .ok (.iconst 0, 1) := by decide +kernel
theorem dX9_count_1 : decode cX9_count 1 = .ok (.istore_n 2, 1) := by decide +kernel
theorem dX9_count_2 : decode cX9_count 2 = .ok (.iload_n 1, 1) := by decide +kernel
theorem dX9_count_3 : decode cX9_count 3 = .ok (.tableswitch 100 0 5 #[37, 44, 50, 57, 64, 69], 37) := by decide +kernel
theorem dX9_count_40 : decode cX9_count 40 = .ok (.aload_n 0, 1) := by decide +kernel
theorem dX9_count_41 : decode cX9_count 41 = .ok (.getfield 7, 3) := by decide +kernel
theorem dX9_count_44 : decode cX9_count 44 = .ok (.iconst 0, 1) := by decide +kernel
theorem dX9_count_45 : decode cX9_count 45 = .ok (.iaload, 1) := by decide +kernel
theorem dX9_count_46 : decode cX9_count 46 = .ok (.ireturn, 1) := by decide +kernel
theorem dX9_count_47 : decode cX9_count 47 = .ok (.aload_n 0, 1) := by decide +kernel
theorem dX9_count_48 : decode cX9_count 48 = .ok (.iconst 0, 1) := by decide +kernel
theorem dX9_count_49 : decode cX9_count 49 = .ok (.invokevirtual 320, 3) := by decide +kernel
theorem dX9_count_52 : decode cX9_count 52 = .ok (.ireturn, 1) := by decide +kernel
theorem dX9_count_53 : decode cX9_count 53 = .ok (.aload_n 0, 1) := by decide +kernel
theorem dX9_count_54 : decode cX9_count 54 = .ok (.getfield 7, 3) := by decide +kernel
theorem dX9_count_57 : decode cX9_count 57 = .ok (.iconst 1, 1) := by decide +kernel
theorem dX9_count_58 : decode cX9_count 58 = .ok (.iaload, 1) := by decide +kernel
theorem dX9_count_59 : decode cX9_count 59 = .ok (.ireturn, 1) := by decide +kernel
theorem dX9_count_60 : decode cX9_count 60 = .ok (.aload_n 0, 1) := by decide +kernel
theorem dX9_count_61 : decode cX9_count 61 = .ok (.getfield 7, 3) := by decide +kernel
theorem dX9_count_64 : decode cX9_count 64 = .ok (.iconst 2, 1) := by decide +kernel
theorem dX9_count_65 : decode cX9_count 65 = .ok (.iaload, 1) := by decide +kernel
theorem dX9_count_66 : decode cX9_count 66 = .ok (.ireturn, 1) := by decide +kernel
theorem dX9_count_67 : decode cX9_count 67 = .ok (.aload_n 0, 1) := by decide +kernel
theorem dX9_count_68 : decode cX9_count 68 = .ok (.getfield 240, 3) := by decide +kernel
theorem dX9_count_71 : decode cX9_count 71 = .ok (.ireturn, 1) := by decide +kernel
theorem dX9_count_72 : decode cX9_count 72 = .ok (.iconst 0, 1) := by decide +kernel
theorem dX9_count_73 : decode cX9_count 73 = .ok (.istore_n 3, 1) := by decide +kernel
theorem dX9_count_74 : decode cX9_count 74 = .ok (.iload_n 3, 1) := by decide +kernel
theorem dX9_count_75 : decode cX9_count 75 = .ok (.aload_n 0, 1) := by decide +kernel
theorem dX9_count_76 : decode cX9_count 76 = .ok (.getfield 7, 3) := by decide +kernel
theorem dX9_count_79 : decode cX9_count 79 = .ok (.iconst 0, 1) := by decide +kernel
theorem dX9_count_80 : decode cX9_count 80 = .ok (.iaload, 1) := by decide +kernel
theorem dX9_count_81 : decode cX9_count 81 = .ok (.if_icmp .ge 20, 3) := by decide +kernel
theorem dX9_count_101 : decode cX9_count 101 = .ok (.iload_n 2, 1) := by decide +kernel
theorem dX9_count_102 : decode cX9_count 102 = .ok (.ireturn, 1) := by decide +kernel
theorem dX9_count_103 : decode cX9_count 103 = .ok (.aload_n 0, 1) := by decide +kernel
theorem dX9_count_104 : decode cX9_count 104 = .ok (.ldc 56, 2) := by decide +kernel
theorem dX9_count_106 : decode cX9_count 106 = .ok (.invokevirtual 70, 3) := by decide +kernel
theorem dX9_count_109 : decode cX9_count 109 = .ok (.ireturn, 1) := by decide +kernel
theorem dX9_errands_0 : decode cX9_errands 0 = .ok (.aload_n 0, 1) := by decide +kernel
theorem dX9_errands_1 : decode cX9_errands 1 = .ok (.iload_n 1, 1) := by decide +kernel
theorem dX9_errands_2 : decode cX9_errands 2 = .ok (.invokevirtual 61, 3) := by decide +kernel
theorem dX9_errands_5 : decode cX9_errands 5 = .ok (.ifCond .eq 15, 3) := by decide +kernel
theorem dX9_errands_20 : decode cX9_errands 20 = .ok (.aload_n 0, 1) := by decide +kernel
theorem dX9_errands_21 : decode cX9_errands 21 = .ok (.ldc 56, 2) := by decide +kernel
theorem dX9_errands_23 : decode cX9_errands 23 = .ok (.invokevirtual 70, 3) := by decide +kernel
theorem dX9_errands_26 : decode cX9_errands 26 = .ok (.ireturn, 1) := by decide +kernel
theorem dX9_far_0 : decode cX9_far 0 = .ok (.aload_n 0, 1) := by decide +kernel
theorem dX9_far_1 : decode cX9_far 1 = .ok (.iload_n 1, 1) := by decide +kernel
theorem dX9_far_2 : decode cX9_far 2 = .ok (.invokevirtual 61, 3) := by decide +kernel
theorem dX9_far_5 : decode cX9_far 5 = .ok (.ifCond .eq 11, 3) := by decide +kernel
theorem dX9_far_16 : decode cX9_far 16 = .ok (.aload_n 0, 1) := by decide +kernel
theorem dX9_far_17 : decode cX9_far 17 = .ok (.ldc 56, 2) := by decide +kernel
theorem dX9_far_19 : decode cX9_far 19 = .ok (.invokevirtual 70, 3) := by decide +kernel
theorem dX9_far_22 : decode cX9_far 22 = .ok (.ireturn, 1) := by decide +kernel
theorem dX9_feed_0 : decode cX9_feed 0 = .ok (.iload_n 2, 1) := by decide +kernel
theorem dX9_feed_1 : decode cX9_feed 1 = .ok (.i2l, 1) := by decide +kernel
theorem dX9_feed_2 : decode cX9_feed 2 = .ok (.lconst 1, 1) := by decide +kernel
theorem dX9_feed_3 : decode cX9_feed 3 = .ok (.ldc2_w 238, 3) := by decide +kernel
theorem dX9_feed_6 : decode cX9_feed 6 = .ok (.invokestatic 57, 3) := by decide +kernel
theorem dX9_feed_9 : decode cX9_feed 9 = .ok (.ifCond .ne 10, 3) := by decide +kernel
theorem dX9_feed_12 : decode cX9_feed 12 = .ok (.aload_n 0, 1) := by decide +kernel
theorem dX9_feed_13 : decode cX9_feed 13 = .ok (.ldc 56, 2) := by decide +kernel
theorem dX9_feed_15 : decode cX9_feed 15 = .ok (.invokevirtual 70, 3) := by decide +kernel
theorem dX9_feed_18 : decode cX9_feed 18 = .ok (.ireturn, 1) := by decide +kernel
theorem dX9_feed_19 : decode cX9_feed 19 = .ok (.aload_n 0, 1) := by decide +kernel
theorem dX9_feed_20 : decode cX9_feed 20 = .ok (.getfield 240, 3) := by decide +kernel
theorem dX9_feed_23 : decode cX9_feed 23 = .ok (.iload_n 2, 1) := by decide +kernel
theorem dX9_feed_24 : decode cX9_feed 24 = .ok (.iadd, 1) := by decide +kernel
theorem dX9_feed_25 : decode cX9_feed 25 = .ok (.bipush 120, 2) := by decide +kernel
theorem dX9_feed_27 : decode cX9_feed 27 = .ok (.if_icmp .le 10, 3) := by decide +kernel
theorem dX9_feed_37 : decode cX9_feed 37 = .ok (.iload_n 2, 1) := by decide +kernel
theorem dX9_feed_38 : decode cX9_feed 38 = .ok (.iconst 1, 1) := by decide +kernel
theorem dX9_feed_39 : decode cX9_feed 39 = .ok (.isub, 1) := by decide +kernel
theorem dX9_feed_40 : decode cX9_feed 40 = .ok (.istore_n 3, 1) := by decide +kernel
theorem dX9_feed_41 : decode cX9_feed 41 = .ok (.iload_n 3, 1) := by decide +kernel
theorem dX9_feed_42 : decode cX9_feed 42 = .ok (.ifCond .lt 38, 3) := by decide +kernel
theorem dX9_feed_45 : decode cX9_feed 45 = .ok (.aload_n 0, 1) := by decide +kernel
theorem dX9_feed_46 : decode cX9_feed 46 = .ok (.getfield 37, 3) := by decide +kernel
theorem dX9_feed_49 : decode cX9_feed 49 = .ok (.aload_n 0, 1) := by decide +kernel
theorem dX9_feed_50 : decode cX9_feed 50 = .ok (.getfield 240, 3) := by decide +kernel
theorem dX9_feed_53 : decode cX9_feed 53 = .ok (.iload_n 1, 1) := by decide +kernel
theorem dX9_feed_54 : decode cX9_feed 54 = .ok (.bipush 8, 2) := by decide +kernel
theorem dX9_feed_56 : decode cX9_feed 56 = .ok (.iload_n 3, 1) := by decide +kernel
theorem dX9_feed_57 : decode cX9_feed 57 = .ok (.imul, 1) := by decide +kernel
theorem dX9_feed_58 : decode cX9_feed 58 = .ok (.ishr, 1) := by decide +kernel
theorem dX9_feed_59 : decode cX9_feed 59 = .ok (.sipush 255, 3) := by decide +kernel
theorem dX9_feed_62 : decode cX9_feed 62 = .ok (.iand, 1) := by decide +kernel
theorem dX9_feed_63 : decode cX9_feed 63 = .ok (.iastore, 1) := by decide +kernel
theorem dX9_feed_64 : decode cX9_feed 64 = .ok (.aload_n 0, 1) := by decide +kernel
theorem dX9_feed_65 : decode cX9_feed 65 = .ok (.dup, 1) := by decide +kernel
theorem dX9_feed_66 : decode cX9_feed 66 = .ok (.getfield 240, 3) := by decide +kernel
theorem dX9_feed_69 : decode cX9_feed 69 = .ok (.iconst 1, 1) := by decide +kernel
theorem dX9_feed_70 : decode cX9_feed 70 = .ok (.iadd, 1) := by decide +kernel
theorem dX9_feed_71 : decode cX9_feed 71 = .ok (.putfield 240, 3) := by decide +kernel
theorem dX9_feed_74 : decode cX9_feed 74 = .ok (.iinc 3 (-1), 3) := by decide +kernel
theorem dX9_feed_77 : decode cX9_feed 77 = .ok (.goto (-36), 3) := by decide +kernel
theorem dX9_feed_80 : decode cX9_feed 80 = .ok (.aload_n 0, 1) := by decide +kernel
theorem dX9_feed_81 : decode cX9_feed 81 = .ok (.getfield 240, 3) := by decide +kernel
theorem dX9_feed_84 : decode cX9_feed 84 = .ok (.ireturn, 1) := by decide +kernel
theorem dX9_findFar_0 : decode cX9_findFar 0 = .ok (.aload_n 0, 1) := by decide +kernel
theorem dX9_findFar_1 : decode cX9_findFar 1 = .ok (.getfield 7, 3) := by decide +kernel
theorem dX9_findFar_4 : decode cX9_findFar 4 = .ok (.iconst 0, 1) := by decide +kernel
theorem dX9_findFar_5 : decode cX9_findFar 5 = .ok (.iaload, 1) := by decide +kernel
theorem dX9_findFar_6 : decode cX9_findFar 6 = .ok (.istore_n 1, 1) := by decide +kernel
theorem dX9_findFar_7 : decode cX9_findFar 7 = .ok (.iconst 0, 1) := by decide +kernel
theorem dX9_findFar_8 : decode cX9_findFar 8 = .ok (.istore_n 2, 1) := by decide +kernel
theorem dX9_findFar_9 : decode cX9_findFar 9 = .ok (.iload_n 2, 1) := by decide +kernel
theorem dX9_findFar_10 : decode cX9_findFar 10 = .ok (.iload_n 1, 1) := by decide +kernel
theorem dX9_findFar_11 : decode cX9_findFar 11 = .ok (.if_icmp .ge 100, 3) := by decide +kernel
theorem dX9_findFar_111 : decode cX9_findFar 111 = .ok (.iconst 0, 1) := by decide +kernel
theorem dX9_findFar_112 : decode cX9_findFar 112 = .ok (.istore_n 2, 1) := by decide +kernel
theorem dX9_findFar_113 : decode cX9_findFar 113 = .ok (.iload_n 2, 1) := by decide +kernel
theorem dX9_findFar_114 : decode cX9_findFar 114 = .ok (.iload_n 1, 1) := by decide +kernel
theorem dX9_findFar_115 : decode cX9_findFar 115 = .ok (.if_icmp .ge 45, 3) := by decide +kernel
theorem dX9_findFar_160 : decode cX9_findFar 160 = .ok (.aload_n 0, 1) := by decide +kernel
theorem dX9_findFar_161 : decode cX9_findFar 161 = .ok (.iconst 0, 1) := by decide +kernel
theorem dX9_findFar_162 : decode cX9_findFar 162 = .ok (.putfield 109, 3) := by decide +kernel
theorem dX9_findFar_165 : decode cX9_findFar 165 = .ok (.iconst 0, 1) := by decide +kernel
theorem dX9_findFar_166 : decode cX9_findFar 166 = .ok (.istore_n 2, 1) := by decide +kernel
theorem dX9_findFar_167 : decode cX9_findFar 167 = .ok (.iload_n 2, 1) := by decide +kernel
theorem dX9_findFar_168 : decode cX9_findFar 168 = .ok (.iload_n 1, 1) := by decide +kernel
theorem dX9_findFar_169 : decode cX9_findFar 169 = .ok (.if_icmp .ge 37, 3) := by decide +kernel
theorem dX9_findFar_206 : decode cX9_findFar 206 = .ok (.return_, 1) := by decide +kernel
theorem dX9_findHeights_0 : decode cX9_findHeights 0 = .ok (.aload_n 0, 1) := by decide +kernel
theorem dX9_findHeights_1 : decode cX9_findHeights 1 = .ok (.getfield 7, 3) := by decide +kernel
theorem dX9_findHeights_4 : decode cX9_findHeights 4 = .ok (.iconst 0, 1) := by decide +kernel
theorem dX9_findHeights_5 : decode cX9_findHeights 5 = .ok (.iaload, 1) := by decide +kernel
theorem dX9_findHeights_6 : decode cX9_findHeights 6 = .ok (.istore_n 1, 1) := by decide +kernel
theorem dX9_findHeights_7 : decode cX9_findHeights 7 = .ok (.iconst 0, 1) := by decide +kernel
theorem dX9_findHeights_8 : decode cX9_findHeights 8 = .ok (.istore_n 2, 1) := by decide +kernel
theorem dX9_findHeights_9 : decode cX9_findHeights 9 = .ok (.iload_n 2, 1) := by decide +kernel
theorem dX9_findHeights_10 : decode cX9_findHeights 10 = .ok (.iload_n 1, 1) := by decide +kernel
theorem dX9_findHeights_11 : decode cX9_findHeights 11 = .ok (.if_icmp .ge 16, 3) := by decide +kernel
theorem dX9_findHeights_27 : decode cX9_findHeights 27 = .ok (.iconst 0, 1) := by decide +kernel
theorem dX9_findHeights_28 : decode cX9_findHeights 28 = .ok (.istore_n 2, 1) := by decide +kernel
theorem dX9_findHeights_29 : decode cX9_findHeights 29 = .ok (.iload_n 2, 1) := by decide +kernel
theorem dX9_findHeights_30 : decode cX9_findHeights 30 = .ok (.iload_n 1, 1) := by decide +kernel
theorem dX9_findHeights_31 : decode cX9_findHeights 31 = .ok (.if_icmp .ge 37, 3) := by decide +kernel
theorem dX9_findHeights_68 : decode cX9_findHeights 68 = .ok (.aload_n 0, 1) := by decide +kernel
theorem dX9_findHeights_69 : decode cX9_findHeights 69 = .ok (.iconst 1, 1) := by decide +kernel
theorem dX9_findHeights_70 : decode cX9_findHeights 70 = .ok (.putfield 180, 3) := by decide +kernel
theorem dX9_findHeights_73 : decode cX9_findHeights 73 = .ok (.iconst 0, 1) := by decide +kernel
theorem dX9_findHeights_74 : decode cX9_findHeights 74 = .ok (.istore_n 2, 1) := by decide +kernel
theorem dX9_findHeights_75 : decode cX9_findHeights 75 = .ok (.iload_n 2, 1) := by decide +kernel
theorem dX9_findHeights_76 : decode cX9_findHeights 76 = .ok (.iload_n 1, 1) := by decide +kernel
theorem dX9_findHeights_77 : decode cX9_findHeights 77 = .ok (.if_icmp .ge 76, 3) := by decide +kernel
theorem dX9_findHeights_153 : decode cX9_findHeights 153 = .ok (.return_, 1) := by decide +kernel
theorem dX9_finds_0 : decode cX9_finds 0 = .ok (.aload_n 0, 1) := by decide +kernel
theorem dX9_finds_1 : decode cX9_finds 1 = .ok (.getfield 19, 3) := by decide +kernel
theorem dX9_finds_4 : decode cX9_finds 4 = .ok (.ldc 56, 2) := by decide +kernel
theorem dX9_finds_6 : decode cX9_finds 6 = .ok (.iload_n 1, 1) := by decide +kernel
theorem dX9_finds_7 : decode cX9_finds 7 = .ok (.isub, 1) := by decide +kernel
theorem dX9_finds_8 : decode cX9_finds 8 = .ok (.dup2, 1) := by decide +kernel
theorem dX9_finds_9 : decode cX9_finds 9 = .ok (.iaload, 1) := by decide +kernel
theorem dX9_finds_10 : decode cX9_finds 10 = .ok (.iconst 1, 1) := by decide +kernel
theorem dX9_finds_11 : decode cX9_finds 11 = .ok (.iadd, 1) := by decide +kernel
theorem dX9_finds_12 : decode cX9_finds 12 = .ok (.iastore, 1) := by decide +kernel
theorem dX9_finds_13 : decode cX9_finds 13 = .ok (.iload_n 1, 1) := by decide +kernel
theorem dX9_finds_14 : decode cX9_finds 14 = .ok (.ireturn, 1) := by decide +kernel
theorem dX9_fit_0 : decode cX9_fit 0 = .ok (.aload_n 0, 1) := by decide +kernel
theorem dX9_fit_1 : decode cX9_fit 1 = .ok (.invokevirtual 186, 3) := by decide +kernel
theorem dX9_fit_4 : decode cX9_fit 4 = .ok (.aload_n 0, 1) := by decide +kernel
theorem dX9_fit_5 : decode cX9_fit 5 = .ok (.getfield 180, 3) := by decide +kernel
theorem dX9_fit_8 : decode cX9_fit 8 = .ok (.ifCond .eq 7, 3) := by decide +kernel
theorem dX9_fit_11 : decode cX9_fit 11 = .ok (.iconst 1, 1) := by decide +kernel
theorem dX9_fit_12 : decode cX9_fit 12 = .ok (.goto 4, 3) := by decide +kernel
theorem dX9_fit_16 : decode cX9_fit 16 = .ok (.ireturn, 1) := by decide +kernel
theorem dX9_goes_0 : decode cX9_goes 0 = .ok (.aload_n 0, 1) := by decide +kernel
theorem dX9_goes_1 : decode cX9_goes 1 = .ok (.iload_n 1, 1) := by decide +kernel
theorem dX9_goes_2 : decode cX9_goes 2 = .ok (.invokevirtual 61, 3) := by decide +kernel
theorem dX9_goes_5 : decode cX9_goes 5 = .ok (.ifCond .eq 15, 3) := by decide +kernel
theorem dX9_goes_20 : decode cX9_goes 20 = .ok (.aload_n 0, 1) := by decide +kernel
theorem dX9_goes_21 : decode cX9_goes 21 = .ok (.ldc 56, 2) := by decide +kernel
theorem dX9_goes_23 : decode cX9_goes 23 = .ok (.invokevirtual 70, 3) := by decide +kernel
theorem dX9_goes_26 : decode cX9_goes 26 = .ok (.ireturn, 1) := by decide +kernel
theorem dX9_height_0 : decode cX9_height 0 = .ok (.aload_n 0, 1) := by decide +kernel
theorem dX9_height_1 : decode cX9_height 1 = .ok (.iload_n 1, 1) := by decide +kernel
theorem dX9_height_2 : decode cX9_height 2 = .ok (.invokevirtual 61, 3) := by decide +kernel
theorem dX9_height_5 : decode cX9_height 5 = .ok (.ifCond .ne 10, 3) := by decide +kernel
theorem dX9_height_8 : decode cX9_height 8 = .ok (.aload_n 0, 1) := by decide +kernel
theorem dX9_height_9 : decode cX9_height 9 = .ok (.ldc 56, 2) := by decide +kernel
theorem dX9_height_11 : decode cX9_height 11 = .ok (.invokevirtual 70, 3) := by decide +kernel
theorem dX9_height_14 : decode cX9_height 14 = .ok (.ireturn, 1) := by decide +kernel
theorem dX9_hollow_0 : decode cX9_hollow 0 = .ok (.iconst 0, 1) := by decide +kernel
theorem dX9_hollow_1 : decode cX9_hollow 1 = .ok (.istore_n 1, 1) := by decide +kernel
theorem dX9_hollow_2 : decode cX9_hollow 2 = .ok (.iconst 0, 1) := by decide +kernel
theorem dX9_hollow_3 : decode cX9_hollow 3 = .ok (.istore_n 2, 1) := by decide +kernel
theorem dX9_hollow_4 : decode cX9_hollow 4 = .ok (.iload_n 2, 1) := by decide +kernel
theorem dX9_hollow_5 : decode cX9_hollow 5 = .ok (.aload_n 0, 1) := by decide +kernel
theorem dX9_hollow_6 : decode cX9_hollow 6 = .ok (.getfield 7, 3) := by decide +kernel
theorem dX9_hollow_9 : decode cX9_hollow 9 = .ok (.iconst 0, 1) := by decide +kernel
theorem dX9_hollow_10 : decode cX9_hollow 10 = .ok (.iaload, 1) := by decide +kernel
theorem dX9_hollow_11 : decode cX9_hollow 11 = .ok (.if_icmp .ge 55, 3) := by decide +kernel
theorem dX9_hollow_66 : decode cX9_hollow 66 = .ok (.iconst (-1), 1) := by decide +kernel
theorem dX9_hollow_67 : decode cX9_hollow 67 = .ok (.istore_n 2, 1) := by decide +kernel
theorem dX9_hollow_68 : decode cX9_hollow 68 = .ok (.iload_n 2, 1) := by decide +kernel
theorem dX9_hollow_69 : decode cX9_hollow 69 = .ok (.iload_n 1, 1) := by decide +kernel
theorem dX9_hollow_70 : decode cX9_hollow 70 = .ok (.if_icmp .eq 49, 3) := by decide +kernel
theorem dX9_hollow_73 : decode cX9_hollow 73 = .ok (.iload_n 1, 1) := by decide +kernel
theorem dX9_hollow_74 : decode cX9_hollow 74 = .ok (.istore_n 2, 1) := by decide +kernel
theorem dX9_hollow_75 : decode cX9_hollow 75 = .ok (.iconst 0, 1) := by decide +kernel
theorem dX9_hollow_76 : decode cX9_hollow 76 = .ok (.istore_n 3, 1) := by decide +kernel
theorem dX9_hollow_77 : decode cX9_hollow 77 = .ok (.iload_n 3, 1) := by decide +kernel
theorem dX9_hollow_78 : decode cX9_hollow 78 = .ok (.aload_n 0, 1) := by decide +kernel
theorem dX9_hollow_79 : decode cX9_hollow 79 = .ok (.getfield 7, 3) := by decide +kernel
theorem dX9_hollow_82 : decode cX9_hollow 82 = .ok (.iconst 0, 1) := by decide +kernel
theorem dX9_hollow_83 : decode cX9_hollow 83 = .ok (.iaload, 1) := by decide +kernel
theorem dX9_hollow_84 : decode cX9_hollow 84 = .ok (.if_icmp .ge 32, 3) := by decide +kernel
theorem dX9_hollow_116 : decode cX9_hollow 116 = .ok (.goto (-48), 3) := by decide +kernel
theorem dX9_hollow_119 : decode cX9_hollow 119 = .ok (.iload_n 1, 1) := by decide +kernel
theorem dX9_hollow_120 : decode cX9_hollow 120 = .ok (.ireturn, 1) := by decide +kernel
theorem dX9_home_0 : decode cX9_home 0 = .ok (.iconst (-1), 1) := by decide +kernel
theorem dX9_home_1 : decode cX9_home 1 = .ok (.istore_n 1, 1) := by decide +kernel
theorem dX9_home_2 : decode cX9_home 2 = .ok (.ldc 104, 2) := by decide +kernel
theorem dX9_home_4 : decode cX9_home 4 = .ok (.istore_n 2, 1) := by decide +kernel
theorem dX9_home_5 : decode cX9_home 5 = .ok (.iconst 0, 1) := by decide +kernel
theorem dX9_home_6 : decode cX9_home 6 = .ok (.istore_n 3, 1) := by decide +kernel
theorem dX9_home_7 : decode cX9_home 7 = .ok (.iload_n 3, 1) := by decide +kernel
theorem dX9_home_8 : decode cX9_home 8 = .ok (.aload_n 0, 1) := by decide +kernel
theorem dX9_home_9 : decode cX9_home 9 = .ok (.getfield 7, 3) := by decide +kernel
theorem dX9_home_12 : decode cX9_home 12 = .ok (.iconst 0, 1) := by decide +kernel
theorem dX9_home_13 : decode cX9_home 13 = .ok (.iaload, 1) := by decide +kernel
theorem dX9_home_14 : decode cX9_home 14 = .ok (.if_icmp .ge 27, 3) := by decide +kernel
theorem dX9_home_41 : decode cX9_home 41 = .ok (.iload_n 1, 1) := by decide +kernel
theorem dX9_home_42 : decode cX9_home 42 = .ok (.ireturn, 1) := by decide +kernel
theorem dX9_image_0 : decode cX9_image 0 = .ok (.iconst 0, 1) := by decide +kernel
theorem dX9_image_1 : decode cX9_image 1 = .ok (.istore_n 1, 1) := by decide +kernel
theorem dX9_image_2 : decode cX9_image 2 = .ok (.iload_n 1, 1) := by decide +kernel
theorem dX9_image_3 : decode cX9_image 3 = .ok (.sipush 449, 3) := by decide +kernel
theorem dX9_image_6 : decode cX9_image 6 = .ok (.if_icmp .ge 21, 3) := by decide +kernel
theorem dX9_image_9 : decode cX9_image 9 = .ok (.aload_n 0, 1) := by decide +kernel
theorem dX9_image_10 : decode cX9_image 10 = .ok (.getfield 13, 3) := by decide +kernel
theorem dX9_image_13 : decode cX9_image 13 = .ok (.iload_n 1, 1) := by decide +kernel
theorem dX9_image_14 : decode cX9_image 14 = .ok (.aload_n 0, 1) := by decide +kernel
theorem dX9_image_15 : decode cX9_image 15 = .ok (.getfield 7, 3) := by decide +kernel
theorem dX9_image_18 : decode cX9_image 18 = .ok (.iload_n 1, 1) := by decide +kernel
theorem dX9_image_19 : decode cX9_image 19 = .ok (.iaload, 1) := by decide +kernel
theorem dX9_image_20 : decode cX9_image 20 = .ok (.iastore, 1) := by decide +kernel
theorem dX9_image_21 : decode cX9_image 21 = .ok (.iinc 1 1, 3) := by decide +kernel
theorem dX9_image_24 : decode cX9_image 24 = .ok (.goto (-22), 3) := by decide +kernel
theorem dX9_image_27 : decode cX9_image 27 = .ok (.aload_n 0, 1) := by decide +kernel
theorem dX9_image_28 : decode cX9_image 28 = .ok (.iconst 1, 1) := by decide +kernel
theorem dX9_image_29 : decode cX9_image 29 = .ok (.putfield 317, 3) := by decide +kernel
theorem dX9_image_32 : decode cX9_image 32 = .ok (.iconst 1, 1) := by decide +kernel
theorem dX9_image_33 : decode cX9_image 33 = .ok (.ireturn, 1) := by decide +kernel
theorem dX9_in_0 : decode cX9_in 0 = .ok (.lload_n 0, 1) := by decide +kernel
theorem dX9_in_1 : decode cX9_in 1 = .ok (.lload_n 2, 1) := by decide +kernel
theorem dX9_in_2 : decode cX9_in 2 = .ok (.lcmp, 1) := by decide +kernel
theorem dX9_in_3 : decode cX9_in 3 = .ok (.ifCond .lt 14, 3) := by decide +kernel
theorem dX9_in_6 : decode cX9_in 6 = .ok (.lload_n 0, 1) := by decide +kernel
theorem dX9_in_7 : decode cX9_in 7 = .ok (.lload 4, 2) := by decide +kernel
theorem dX9_in_9 : decode cX9_in 9 = .ok (.lcmp, 1) := by decide +kernel
theorem dX9_in_10 : decode cX9_in 10 = .ok (.ifCond .gt 7, 3) := by decide +kernel
theorem dX9_in_13 : decode cX9_in 13 = .ok (.iconst 1, 1) := by decide +kernel
theorem dX9_in_14 : decode cX9_in 14 = .ok (.goto 4, 3) := by decide +kernel
theorem dX9_in_17 : decode cX9_in 17 = .ok (.iconst 0, 1) := by decide +kernel
theorem dX9_in_18 : decode cX9_in 18 = .ok (.ireturn, 1) := by decide +kernel
theorem dX9_init_0 : decode cX9_init 0 = .ok (.aload_n 0, 1) := by decide +kernel
theorem dX9_init_1 : decode cX9_init 1 = .ok (.invokespecial 1, 3) := by decide +kernel
theorem dX9_init_4 : decode cX9_init 4 = .ok (.aload_n 0, 1) := by decide +kernel
theorem dX9_init_5 : decode cX9_init 5 = .ok (.sipush 449, 3) := by decide +kernel
theorem dX9_init_8 : decode cX9_init 8 = .ok (.newarray .int, 2) := by decide +kernel
theorem dX9_init_10 : decode cX9_init 10 = .ok (.putfield 7, 3) := by decide +kernel
theorem dX9_init_13 : decode cX9_init 13 = .ok (.aload_n 0, 1) := by decide +kernel
theorem dX9_init_14 : decode cX9_init 14 = .ok (.sipush 449, 3) := by decide +kernel
theorem dX9_init_17 : decode cX9_init 17 = .ok (.newarray .int, 2) := by decide +kernel
theorem dX9_init_19 : decode cX9_init 19 = .ok (.putfield 13, 3) := by decide +kernel
theorem dX9_init_22 : decode cX9_init 22 = .ok (.aload_n 0, 1) := by decide +kernel
theorem dX9_init_23 : decode cX9_init 23 = .ok (.sipush 449, 3) := by decide +kernel
theorem dX9_init_26 : decode cX9_init 26 = .ok (.newarray .int, 2) := by decide +kernel
theorem dX9_init_28 : decode cX9_init 28 = .ok (.putfield 16, 3) := by decide +kernel
theorem dX9_init_31 : decode cX9_init 31 = .ok (.aload_n 0, 1) := by decide +kernel
theorem dX9_init_32 : decode cX9_init 32 = .ok (.bipush 7, 2) := by decide +kernel
theorem dX9_init_34 : decode cX9_init 34 = .ok (.newarray .int, 2) := by decide +kernel
theorem dX9_init_36 : decode cX9_init 36 = .ok (.putfield 19, 3) := by decide +kernel
theorem dX9_init_39 : decode cX9_init 39 = .ok (.aload_n 0, 1) := by decide +kernel
theorem dX9_init_40 : decode cX9_init 40 = .ok (.bipush 100, 2) := by decide +kernel
theorem dX9_init_42 : decode cX9_init 42 = .ok (.newarray .int, 2) := by decide +kernel
theorem dX9_init_44 : decode cX9_init 44 = .ok (.putfield 22, 3) := by decide +kernel
theorem dX9_init_47 : decode cX9_init 47 = .ok (.aload_n 0, 1) := by decide +kernel
theorem dX9_init_48 : decode cX9_init 48 = .ok (.bipush 100, 2) := by decide +kernel
theorem dX9_init_50 : decode cX9_init 50 = .ok (.newarray .int, 2) := by decide +kernel
theorem dX9_init_52 : decode cX9_init 52 = .ok (.putfield 25, 3) := by decide +kernel
theorem dX9_init_55 : decode cX9_init 55 = .ok (.aload_n 0, 1) := by decide +kernel
theorem dX9_init_56 : decode cX9_init 56 = .ok (.bipush 6, 2) := by decide +kernel
theorem dX9_init_58 : decode cX9_init 58 = .ok (.newarray .int, 2) := by decide +kernel
theorem dX9_init_60 : decode cX9_init 60 = .ok (.putfield 28, 3) := by decide +kernel
theorem dX9_init_63 : decode cX9_init 63 = .ok (.aload_n 0, 1) := by decide +kernel
theorem dX9_init_64 : decode cX9_init 64 = .ok (.bipush 10, 2) := by decide +kernel
theorem dX9_init_66 : decode cX9_init 66 = .ok (.newarray .int, 2) := by decide +kernel
theorem dX9_init_68 : decode cX9_init 68 = .ok (.putfield 31, 3) := by decide +kernel
theorem dX9_init_71 : decode cX9_init 71 = .ok (.aload_n 0, 1) := by decide +kernel
theorem dX9_init_72 : decode cX9_init 72 = .ok (.bipush 10, 2) := by decide +kernel
theorem dX9_init_74 : decode cX9_init 74 = .ok (.newarray .int, 2) := by decide +kernel
theorem dX9_init_76 : decode cX9_init 76 = .ok (.putfield 34, 3) := by decide +kernel
theorem dX9_init_79 : decode cX9_init 79 = .ok (.aload_n 0, 1) := by decide +kernel
theorem dX9_init_80 : decode cX9_init 80 = .ok (.bipush 120, 2) := by decide +kernel
theorem dX9_init_82 : decode cX9_init 82 = .ok (.newarray .int, 2) := by decide +kernel
theorem dX9_init_84 : decode cX9_init 84 = .ok (.putfield 37, 3) := by decide +kernel
theorem dX9_init_87 : decode cX9_init 87 = .ok (.aload_n 0, 1) := by decide +kernel
theorem dX9_init_88 : decode cX9_init 88 = .ok (.bipush 6, 2) := by decide +kernel
theorem dX9_init_90 : decode cX9_init 90 = .ok (.newarray .int, 2) := by decide +kernel
theorem dX9_init_92 : decode cX9_init 92 = .ok (.putfield 40, 3) := by decide +kernel
theorem dX9_init_95 : decode cX9_init 95 = .ok (.aload_n 0, 1) := by decide +kernel
theorem dX9_init_96 : decode cX9_init 96 = .ok (.iconst 4, 1) := by decide +kernel
theorem dX9_init_97 : decode cX9_init 97 = .ok (.newarray .int, 2) := by decide +kernel
theorem dX9_init_99 : decode cX9_init 99 = .ok (.putfield 43, 3) := by decide +kernel
theorem dX9_init_102 : decode cX9_init 102 = .ok (.aload_n 0, 1) := by decide +kernel
theorem dX9_init_103 : decode cX9_init 103 = .ok (.iconst 4, 1) := by decide +kernel
theorem dX9_init_104 : decode cX9_init 104 = .ok (.newarray .int, 2) := by decide +kernel
theorem dX9_init_106 : decode cX9_init 106 = .ok (.putfield 46, 3) := by decide +kernel
theorem dX9_init_109 : decode cX9_init 109 = .ok (.aload_n 0, 1) := by decide +kernel
theorem dX9_init_110 : decode cX9_init 110 = .ok (.sipush 160, 3) := by decide +kernel
theorem dX9_init_113 : decode cX9_init 113 = .ok (.newarray .long, 2) := by decide +kernel
theorem dX9_init_115 : decode cX9_init 115 = .ok (.putfield 49, 3) := by decide +kernel
theorem dX9_init_118 : decode cX9_init 118 = .ok (.aload_n 0, 1) := by decide +kernel
theorem dX9_init_119 : decode cX9_init 119 = .ok (.bipush 40, 2) := by decide +kernel
theorem dX9_init_121 : decode cX9_init 121 = .ok (.newarray .long, 2) := by decide +kernel
theorem dX9_init_123 : decode cX9_init 123 = .ok (.putfield 53, 3) := by decide +kernel
theorem dX9_init_126 : decode cX9_init 126 = .ok (.return_, 1) := by decide +kernel
theorem dX9_isDigit_0 : decode cX9_isDigit 0 = .ok (.iload_n 0, 1) := by decide +kernel
theorem dX9_isDigit_1 : decode cX9_isDigit 1 = .ok (.i2l, 1) := by decide +kernel
theorem dX9_isDigit_2 : decode cX9_isDigit 2 = .ok (.ldc2_w 247, 3) := by decide +kernel
theorem dX9_isDigit_5 : decode cX9_isDigit 5 = .ok (.ldc2_w 249, 3) := by decide +kernel
theorem dX9_isDigit_8 : decode cX9_isDigit 8 = .ok (.invokestatic 57, 3) := by decide +kernel
theorem dX9_isDigit_11 : decode cX9_isDigit 11 = .ok (.ireturn, 1) := by decide +kernel
theorem dX9_isLetter_0 : decode cX9_isLetter 0 = .ok (.iload_n 0, 1) := by decide +kernel
theorem dX9_isLetter_1 : decode cX9_isLetter 1 = .ok (.i2l, 1) := by decide +kernel
theorem dX9_isLetter_2 : decode cX9_isLetter 2 = .ok (.ldc2_w 243, 3) := by decide +kernel
theorem dX9_isLetter_5 : decode cX9_isLetter 5 = .ok (.ldc2_w 245, 3) := by decide +kernel
theorem dX9_isLetter_8 : decode cX9_isLetter 8 = .ok (.invokestatic 57, 3) := by decide +kernel
theorem dX9_isLetter_11 : decode cX9_isLetter 11 = .ok (.ireturn, 1) := by decide +kernel
theorem dX9_isOne_0 : decode cX9_isOne 0 = .ok (.iload_n 0, 1) := by decide +kernel
theorem dX9_isOne_1 : decode cX9_isOne 1 = .ok (.i2l, 1) := by decide +kernel
theorem dX9_isOne_2 : decode cX9_isOne 2 = .ok (.lconst 0, 1) := by decide +kernel
theorem dX9_isOne_3 : decode cX9_isOne 3 = .ok (.ldc2_w 303, 3) := by decide +kernel
theorem dX9_isOne_6 : decode cX9_isOne 6 = .ok (.invokestatic 57, 3) := by decide +kernel
theorem dX9_isOne_9 : decode cX9_isOne 9 = .ok (.ireturn, 1) := by decide +kernel
theorem dX9_isPlace_0 : decode cX9_isPlace 0 = .ok (.iload_n 1, 1) := by decide +kernel
theorem dX9_isPlace_1 : decode cX9_isPlace 1 = .ok (.i2l, 1) := by decide +kernel
theorem dX9_isPlace_2 : decode cX9_isPlace 2 = .ok (.lconst 0, 1) := by decide +kernel
theorem dX9_isPlace_3 : decode cX9_isPlace 3 = .ok (.aload_n 0, 1) := by decide +kernel
theorem dX9_isPlace_4 : decode cX9_isPlace 4 = .ok (.getfield 7, 3) := by decide +kernel
theorem dX9_isPlace_7 : decode cX9_isPlace 7 = .ok (.iconst 0, 1) := by decide +kernel
theorem dX9_isPlace_8 : decode cX9_isPlace 8 = .ok (.iaload, 1) := by decide +kernel
theorem dX9_isPlace_9 : decode cX9_isPlace 9 = .ok (.iconst 1, 1) := by decide +kernel
theorem dX9_isPlace_10 : decode cX9_isPlace 10 = .ok (.isub, 1) := by decide +kernel
theorem dX9_isPlace_11 : decode cX9_isPlace 11 = .ok (.i2l, 1) := by decide +kernel
theorem dX9_isPlace_12 : decode cX9_isPlace 12 = .ok (.invokestatic 57, 3) := by decide +kernel
theorem dX9_isPlace_15 : decode cX9_isPlace 15 = .ok (.ireturn, 1) := by decide +kernel
theorem dX9_isRound_0 : decode cX9_isRound 0 = .ok (.iload_n 1, 1) := by decide +kernel
theorem dX9_isRound_1 : decode cX9_isRound 1 = .ok (.i2l, 1) := by decide +kernel
theorem dX9_isRound_2 : decode cX9_isRound 2 = .ok (.lconst 0, 1) := by decide +kernel
theorem dX9_isRound_3 : decode cX9_isRound 3 = .ok (.aload_n 0, 1) := by decide +kernel
theorem dX9_isRound_4 : decode cX9_isRound 4 = .ok (.getfield 7, 3) := by decide +kernel
theorem dX9_isRound_7 : decode cX9_isRound 7 = .ok (.iconst 1, 1) := by decide +kernel
theorem dX9_isRound_8 : decode cX9_isRound 8 = .ok (.iaload, 1) := by decide +kernel
theorem dX9_isRound_9 : decode cX9_isRound 9 = .ok (.iconst 1, 1) := by decide +kernel
theorem dX9_isRound_10 : decode cX9_isRound 10 = .ok (.isub, 1) := by decide +kernel
theorem dX9_isRound_11 : decode cX9_isRound 11 = .ok (.i2l, 1) := by decide +kernel
theorem dX9_isRound_12 : decode cX9_isRound 12 = .ok (.invokestatic 57, 3) := by decide +kernel
theorem dX9_isRound_15 : decode cX9_isRound 15 = .ok (.ireturn, 1) := by decide +kernel
theorem dX9_isWord_0 : decode cX9_isWord 0 = .ok (.iload_n 3, 1) := by decide +kernel
theorem dX9_isWord_1 : decode cX9_isWord 1 = .ok (.ifCond .ne 7, 3) := by decide +kernel
theorem dX9_isWord_8 : decode cX9_isWord 8 = .ok (.iload 4, 2) := by decide +kernel
theorem dX9_isWord_10 : decode cX9_isWord 10 = .ok (.ifCond .ne 7, 3) := by decide +kernel
theorem dX9_isWord_13 : decode cX9_isWord 13 = .ok (.iconst 3, 1) := by decide +kernel
theorem dX9_isWord_14 : decode cX9_isWord 14 = .ok (.goto 33, 3) := by decide +kernel
theorem dX9_isWord_17 : decode cX9_isWord 17 = .ok (.iload 5, 2) := by decide +kernel
theorem dX9_isWord_19 : decode cX9_isWord 19 = .ok (.ifCond .ne 7, 3) := by decide +kernel
theorem dX9_isWord_22 : decode cX9_isWord 22 = .ok (.iconst 4, 1) := by decide +kernel
theorem dX9_isWord_23 : decode cX9_isWord 23 = .ok (.goto 24, 3) := by decide +kernel
theorem dX9_isWord_26 : decode cX9_isWord 26 = .ok (.iload 6, 2) := by decide +kernel
theorem dX9_isWord_28 : decode cX9_isWord 28 = .ok (.ifCond .ne 7, 3) := by decide +kernel
theorem dX9_isWord_31 : decode cX9_isWord 31 = .ok (.iconst 5, 1) := by decide +kernel
theorem dX9_isWord_32 : decode cX9_isWord 32 = .ok (.goto 15, 3) := by decide +kernel
theorem dX9_isWord_35 : decode cX9_isWord 35 = .ok (.iload 7, 2) := by decide +kernel
theorem dX9_isWord_37 : decode cX9_isWord 37 = .ok (.ifCond .ne 8, 3) := by decide +kernel
theorem dX9_isWord_45 : decode cX9_isWord 45 = .ok (.bipush 7, 2) := by decide +kernel
theorem dX9_isWord_47 : decode cX9_isWord 47 = .ok (.istore 8, 2) := by decide +kernel
theorem dX9_isWord_49 : decode cX9_isWord 49 = .ok (.aload_n 0, 1) := by decide +kernel
theorem dX9_isWord_50 : decode cX9_isWord 50 = .ok (.getfield 266, 3) := by decide +kernel
theorem dX9_isWord_53 : decode cX9_isWord 53 = .ok (.ifCond .ne 89, 3) := by decide +kernel
theorem dX9_isWord_56 : decode cX9_isWord 56 = .ok (.aload_n 0, 1) := by decide +kernel
theorem dX9_isWord_57 : decode cX9_isWord 57 = .ok (.getfield 251, 3) := by decide +kernel
theorem dX9_isWord_60 : decode cX9_isWord 60 = .ok (.aload_n 0, 1) := by decide +kernel
theorem dX9_isWord_61 : decode cX9_isWord 61 = .ok (.getfield 254, 3) := by decide +kernel
theorem dX9_isWord_64 : decode cX9_isWord 64 = .ok (.isub, 1) := by decide +kernel
theorem dX9_isWord_65 : decode cX9_isWord 65 = .ok (.iload 8, 2) := by decide +kernel
theorem dX9_isWord_67 : decode cX9_isWord 67 = .ok (.if_icmp .ne 75, 3) := by decide +kernel
theorem dX9_isWord_142 : decode cX9_isWord 142 = .ok (.iconst 0, 1) := by decide +kernel
theorem dX9_isWord_143 : decode cX9_isWord 143 = .ok (.ireturn, 1) := by decide +kernel
theorem dX9_item_0 : decode cX9_item 0 = .ok (.aload_n 0, 1) := by decide +kernel
theorem dX9_item_1 : decode cX9_item 1 = .ok (.bipush 119, 2) := by decide +kernel
theorem dX9_item_3 : decode cX9_item 3 = .ok (.bipush 97, 2) := by decide +kernel
theorem dX9_item_5 : decode cX9_item 5 = .ok (.bipush 121, 2) := by decide +kernel
theorem dX9_item_7 : decode cX9_item 7 = .ok (.iconst 0, 1) := by decide +kernel
theorem dX9_item_8 : decode cX9_item 8 = .ok (.iconst 0, 1) := by decide +kernel
theorem dX9_item_9 : decode cX9_item 9 = .ok (.iconst 0, 1) := by decide +kernel
theorem dX9_item_10 : decode cX9_item 10 = .ok (.iconst 0, 1) := by decide +kernel
theorem dX9_item_11 : decode cX9_item 11 = .ok (.invokevirtual 290, 3) := by decide +kernel
theorem dX9_item_14 : decode cX9_item 14 = .ok (.ifCond .eq 10, 3) := by decide +kernel
theorem dX9_item_24 : decode cX9_item 24 = .ok (.aload_n 0, 1) := by decide +kernel
theorem dX9_item_25 : decode cX9_item 25 = .ok (.bipush 119, 2) := by decide +kernel
theorem dX9_item_27 : decode cX9_item 27 = .ok (.bipush 97, 2) := by decide +kernel
theorem dX9_item_29 : decode cX9_item 29 = .ok (.bipush 108, 2) := by decide +kernel
theorem dX9_item_31 : decode cX9_item 31 = .ok (.bipush 107, 2) := by decide +kernel
theorem dX9_item_33 : decode cX9_item 33 = .ok (.iconst 0, 1) := by decide +kernel
theorem dX9_item_34 : decode cX9_item 34 = .ok (.iconst 0, 1) := by decide +kernel
theorem dX9_item_35 : decode cX9_item 35 = .ok (.iconst 0, 1) := by decide +kernel
theorem dX9_item_36 : decode cX9_item 36 = .ok (.invokevirtual 290, 3) := by decide +kernel
theorem dX9_item_39 : decode cX9_item 39 = .ok (.ifCond .eq 10, 3) := by decide +kernel
theorem dX9_item_49 : decode cX9_item 49 = .ok (.aload_n 0, 1) := by decide +kernel
theorem dX9_item_50 : decode cX9_item 50 = .ok (.aload_n 0, 1) := by decide +kernel
theorem dX9_item_51 : decode cX9_item 51 = .ok (.bipush 112, 2) := by decide +kernel
theorem dX9_item_53 : decode cX9_item 53 = .ok (.bipush 108, 2) := by decide +kernel
theorem dX9_item_55 : decode cX9_item 55 = .ok (.bipush 97, 2) := by decide +kernel
theorem dX9_item_57 : decode cX9_item 57 = .ok (.bipush 99, 2) := by decide +kernel
theorem dX9_item_59 : decode cX9_item 59 = .ok (.bipush 101, 2) := by decide +kernel
theorem dX9_item_61 : decode cX9_item 61 = .ok (.iconst 0, 1) := by decide +kernel
theorem dX9_item_62 : decode cX9_item 62 = .ok (.iconst 0, 1) := by decide +kernel
theorem dX9_item_63 : decode cX9_item 63 = .ok (.invokevirtual 290, 3) := by decide +kernel
theorem dX9_item_66 : decode cX9_item 66 = .ok (.ifCond .eq 18, 3) := by decide +kernel
theorem dX9_item_84 : decode cX9_item 84 = .ok (.iconst 0, 1) := by decide +kernel
theorem dX9_item_85 : decode cX9_item 85 = .ok (.invokevirtual 278, 3) := by decide +kernel
theorem dX9_item_88 : decode cX9_item 88 = .ok (.aload_n 0, 1) := by decide +kernel
theorem dX9_item_89 : decode cX9_item 89 = .ok (.getfield 266, 3) := by decide +kernel
theorem dX9_item_92 : decode cX9_item 92 = .ok (.ifCond .eq 7, 3) := by decide +kernel
theorem dX9_item_95 : decode cX9_item 95 = .ok (.iconst 0, 1) := by decide +kernel
theorem dX9_item_96 : decode cX9_item 96 = .ok (.goto 7, 3) := by decide +kernel
theorem dX9_item_103 : decode cX9_item 103 = .ok (.istore_n 1, 1) := by decide +kernel
theorem dX9_item_104 : decode cX9_item 104 = .ok (.aload_n 0, 1) := by decide +kernel
theorem dX9_item_105 : decode cX9_item 105 = .ok (.bipush 101, 2) := by decide +kernel
theorem dX9_item_107 : decode cX9_item 107 = .ok (.bipush 114, 2) := by decide +kernel
theorem dX9_item_109 : decode cX9_item 109 = .ok (.bipush 114, 2) := by decide +kernel
theorem dX9_item_111 : decode cX9_item 111 = .ok (.bipush 97, 2) := by decide +kernel
theorem dX9_item_113 : decode cX9_item 113 = .ok (.bipush 110, 2) := by decide +kernel
theorem dX9_item_115 : decode cX9_item 115 = .ok (.bipush 100, 2) := by decide +kernel
theorem dX9_item_117 : decode cX9_item 117 = .ok (.bipush 115, 2) := by decide +kernel
theorem dX9_item_119 : decode cX9_item 119 = .ok (.invokevirtual 290, 3) := by decide +kernel
theorem dX9_item_122 : decode cX9_item 122 = .ok (.ifCond .eq 34, 3) := by decide +kernel
theorem dX9_item_156 : decode cX9_item 156 = .ok (.return_, 1) := by decide +kernel
theorem dX9_known_0 : decode cX9_known 0 = .ok (.iload_n 1, 1) := by decide +kernel
theorem dX9_known_1 : decode cX9_known 1 = .ok (.i2l, 1) := by decide +kernel
theorem dX9_known_2 : decode cX9_known 2 = .ok (.lconst 0, 1) := by decide +kernel
theorem dX9_known_3 : decode cX9_known 3 = .ok (.ldc2_w 91, 3) := by decide +kernel
theorem dX9_known_6 : decode cX9_known 6 = .ok (.invokestatic 57, 3) := by decide +kernel
theorem dX9_known_9 : decode cX9_known 9 = .ok (.ifCond .ne 10, 3) := by decide +kernel
theorem dX9_known_12 : decode cX9_known 12 = .ok (.aload_n 0, 1) := by decide +kernel
theorem dX9_known_13 : decode cX9_known 13 = .ok (.ldc 56, 2) := by decide +kernel
theorem dX9_known_15 : decode cX9_known 15 = .ok (.invokevirtual 70, 3) := by decide +kernel
theorem dX9_known_18 : decode cX9_known 18 = .ok (.ireturn, 1) := by decide +kernel
theorem dX9_known_19 : decode cX9_known 19 = .ok (.iconst 0, 1) := by decide +kernel
theorem dX9_known_20 : decode cX9_known 20 = .ok (.istore_n 2, 1) := by decide +kernel
theorem dX9_known_21 : decode cX9_known 21 = .ok (.iconst 0, 1) := by decide +kernel
theorem dX9_known_22 : decode cX9_known 22 = .ok (.istore_n 3, 1) := by decide +kernel
theorem dX9_known_23 : decode cX9_known 23 = .ok (.iconst 0, 1) := by decide +kernel
theorem dX9_known_24 : decode cX9_known 24 = .ok (.istore 4, 2) := by decide +kernel
theorem dX9_known_26 : decode cX9_known 26 = .ok (.iconst 0, 1) := by decide +kernel
theorem dX9_known_27 : decode cX9_known 27 = .ok (.istore 5, 2) := by decide +kernel
theorem dX9_known_29 : decode cX9_known 29 = .ok (.iload 5, 2) := by decide +kernel
theorem dX9_known_31 : decode cX9_known 31 = .ok (.bipush 100, 2) := by decide +kernel
theorem dX9_known_33 : decode cX9_known 33 = .ok (.if_icmp .ge 59, 3) := by decide +kernel
theorem dX9_known_36 : decode cX9_known 36 = .ok (.aload_n 0, 1) := by decide +kernel
theorem dX9_known_37 : decode cX9_known 37 = .ok (.iload 5, 2) := by decide +kernel
theorem dX9_known_39 : decode cX9_known 39 = .ok (.invokevirtual 223, 3) := by decide +kernel
theorem dX9_known_42 : decode cX9_known 42 = .ok (.istore 6, 2) := by decide +kernel
theorem dX9_known_44 : decode cX9_known 44 = .ok (.iload_n 2, 1) := by decide +kernel
theorem dX9_known_45 : decode cX9_known 45 = .ok (.iload 6, 2) := by decide +kernel
theorem dX9_known_47 : decode cX9_known 47 = .ok (.ifCond .ge 7, 3) := by decide +kernel
theorem dX9_known_50 : decode cX9_known 50 = .ok (.iconst 0, 1) := by decide +kernel
theorem dX9_known_51 : decode cX9_known 51 = .ok (.goto 4, 3) := by decide +kernel
theorem dX9_known_55 : decode cX9_known 55 = .ok (.iadd, 1) := by decide +kernel
theorem dX9_known_56 : decode cX9_known 56 = .ok (.istore_n 2, 1) := by decide +kernel
theorem dX9_known_57 : decode cX9_known 57 = .ok (.iload_n 3, 1) := by decide +kernel
theorem dX9_known_58 : decode cX9_known 58 = .ok (.iload 6, 2) := by decide +kernel
theorem dX9_known_60 : decode cX9_known 60 = .ok (.ifCond .le 7, 3) := by decide +kernel
theorem dX9_known_67 : decode cX9_known 67 = .ok (.iconst 0, 1) := by decide +kernel
theorem dX9_known_68 : decode cX9_known 68 = .ok (.iadd, 1) := by decide +kernel
theorem dX9_known_69 : decode cX9_known 69 = .ok (.istore_n 3, 1) := by decide +kernel
theorem dX9_known_70 : decode cX9_known 70 = .ok (.iload 4, 2) := by decide +kernel
theorem dX9_known_72 : decode cX9_known 72 = .ok (.iload 6, 2) := by decide +kernel
theorem dX9_known_74 : decode cX9_known 74 = .ok (.ifCond .le 8, 3) := by decide +kernel
theorem dX9_known_82 : decode cX9_known 82 = .ok (.iconst 0, 1) := by decide +kernel
theorem dX9_known_83 : decode cX9_known 83 = .ok (.iadd, 1) := by decide +kernel
theorem dX9_known_84 : decode cX9_known 84 = .ok (.istore 4, 2) := by decide +kernel
theorem dX9_known_86 : decode cX9_known 86 = .ok (.iinc 5 1, 3) := by decide +kernel
theorem dX9_known_89 : decode cX9_known 89 = .ok (.goto (-60), 3) := by decide +kernel
theorem dX9_known_92 : decode cX9_known 92 = .ok (.iload_n 1, 1) := by decide +kernel
theorem dX9_known_93 : decode cX9_known 93 = .ok (.ifCond .ne 7, 3) := by decide +kernel
theorem dX9_known_96 : decode cX9_known 96 = .ok (.iload_n 2, 1) := by decide +kernel
theorem dX9_known_97 : decode cX9_known 97 = .ok (.goto 14, 3) := by decide +kernel
theorem dX9_known_100 : decode cX9_known 100 = .ok (.iload_n 1, 1) := by decide +kernel
theorem dX9_known_101 : decode cX9_known 101 = .ok (.iconst 1, 1) := by decide +kernel
theorem dX9_known_102 : decode cX9_known 102 = .ok (.if_icmp .ne 7, 3) := by decide +kernel
theorem dX9_known_105 : decode cX9_known 105 = .ok (.iload_n 3, 1) := by decide +kernel
theorem dX9_known_106 : decode cX9_known 106 = .ok (.goto 5, 3) := by decide +kernel
theorem dX9_known_109 : decode cX9_known 109 = .ok (.iload 4, 2) := by decide +kernel
theorem dX9_known_111 : decode cX9_known 111 = .ok (.ireturn, 1) := by decide +kernel
theorem dX9_land_0 : decode cX9_land 0 = .ok (.aload_n 0, 1) := by decide +kernel
theorem dX9_land_1 : decode cX9_land 1 = .ok (.invokevirtual 217, 3) := by decide +kernel
theorem dX9_land_4 : decode cX9_land 4 = .ok (.aload_n 0, 1) := by decide +kernel
theorem dX9_land_5 : decode cX9_land 5 = .ok (.iconst 0, 1) := by decide +kernel
theorem dX9_land_6 : decode cX9_land 6 = .ok (.putfield 251, 3) := by decide +kernel
theorem dX9_land_9 : decode cX9_land 9 = .ok (.aload_n 0, 1) := by decide +kernel
theorem dX9_land_10 : decode cX9_land 10 = .ok (.iconst 0, 1) := by decide +kernel
theorem dX9_land_11 : decode cX9_land 11 = .ok (.putfield 266, 3) := by decide +kernel
theorem dX9_land_14 : decode cX9_land 14 = .ok (.aload_n 0, 1) := by decide +kernel
theorem dX9_land_15 : decode cX9_land 15 = .ok (.invokevirtual 269, 3) := by decide +kernel
theorem dX9_land_18 : decode cX9_land 18 = .ok (.iconst 1, 1) := by decide +kernel
theorem dX9_land_19 : decode cX9_land 19 = .ok (.istore_n 1, 1) := by decide +kernel
theorem dX9_land_20 : decode cX9_land 20 = .ok (.aload_n 0, 1) := by decide +kernel
theorem dX9_land_21 : decode cX9_land 21 = .ok (.invokevirtual 300, 3) := by decide +kernel
theorem dX9_land_24 : decode cX9_land 24 = .ok (.aload_n 0, 1) := by decide +kernel
theorem dX9_land_25 : decode cX9_land 25 = .ok (.getfield 266, 3) := by decide +kernel
theorem dX9_land_28 : decode cX9_land 28 = .ok (.ifCond .ne 46, 3) := by decide +kernel
theorem dX9_land_74 : decode cX9_land 74 = .ok (.aload_n 0, 1) := by decide +kernel
theorem dX9_land_75 : decode cX9_land 75 = .ok (.iconst 0, 1) := by decide +kernel
theorem dX9_land_76 : decode cX9_land 76 = .ok (.putfield 240, 3) := by decide +kernel
theorem dX9_land_79 : decode cX9_land 79 = .ok (.aload_n 0, 1) := by decide +kernel
theorem dX9_land_80 : decode cX9_land 80 = .ok (.getfield 266, 3) := by decide +kernel
theorem dX9_land_83 : decode cX9_land 83 = .ok (.ifCond .eq 14, 3) := by decide +kernel
theorem dX9_land_86 : decode cX9_land 86 = .ok (.aload_n 0, 1) := by decide +kernel
theorem dX9_land_87 : decode cX9_land 87 = .ok (.invokevirtual 220, 3) := by decide +kernel
theorem dX9_land_90 : decode cX9_land 90 = .ok (.iconst (-1), 1) := by decide +kernel
theorem dX9_land_91 : decode cX9_land 91 = .ok (.aload_n 0, 1) := by decide +kernel
theorem dX9_land_92 : decode cX9_land 92 = .ok (.getfield 254, 3) := by decide +kernel
theorem dX9_land_95 : decode cX9_land 95 = .ok (.isub, 1) := by decide +kernel
theorem dX9_land_96 : decode cX9_land 96 = .ok (.ireturn, 1) := by decide +kernel
theorem dX9_lays_0 : decode cX9_lays 0 = .ok (.aload_n 0, 1) := by decide +kernel
theorem dX9_lays_1 : decode cX9_lays 1 = .ok (.iload_n 1, 1) := by decide +kernel
theorem dX9_lays_2 : decode cX9_lays 2 = .ok (.invokevirtual 310, 3) := by decide +kernel
theorem dX9_lays_5 : decode cX9_lays 5 = .ok (.istore_n 3, 1) := by decide +kernel
theorem dX9_lays_6 : decode cX9_lays 6 = .ok (.iload_n 3, 1) := by decide +kernel
theorem dX9_lays_7 : decode cX9_lays 7 = .ok (.ifCond .eq 9, 3) := by decide +kernel
theorem dX9_lays_10 : decode cX9_lays 10 = .ok (.aload_n 0, 1) := by decide +kernel
theorem dX9_lays_11 : decode cX9_lays 11 = .ok (.iload_n 3, 1) := by decide +kernel
theorem dX9_lays_12 : decode cX9_lays 12 = .ok (.invokevirtual 70, 3) := by decide +kernel
theorem dX9_lays_15 : decode cX9_lays 15 = .ok (.ireturn, 1) := by decide +kernel
theorem dX9_learn_0 : decode cX9_learn 0 = .ok (.aload_n 0, 1) := by decide +kernel
theorem dX9_learn_1 : decode cX9_learn 1 = .ok (.invokevirtual 214, 3) := by decide +kernel
theorem dX9_learn_4 : decode cX9_learn 4 = .ok (.ireturn, 1) := by decide +kernel
theorem dX9_learning_0 : decode cX9_learning 0 = .ok (.aload_n 0, 1) := by decide +kernel
theorem dX9_learning_1 : decode cX9_learning 1 = .ok (.iconst 0, 1) := by decide +kernel
theorem dX9_learning_2 : decode cX9_learning 2 = .ok (.putfield 208, 3) := by decide +kernel
theorem dX9_learning_5 : decode cX9_learning 5 = .ok (.iconst 0, 1) := by decide +kernel
theorem dX9_learning_6 : decode cX9_learning 6 = .ok (.istore_n 1, 1) := by decide +kernel
theorem dX9_learning_7 : decode cX9_learning 7 = .ok (.aload_n 0, 1) := by decide +kernel
theorem dX9_learning_8 : decode cX9_learning 8 = .ok (.iconst 1, 1) := by decide +kernel
theorem dX9_learning_9 : decode cX9_learning 9 = .ok (.putfield 205, 3) := by decide +kernel
theorem dX9_learning_12 : decode cX9_learning 12 = .ok (.iconst 0, 1) := by decide +kernel
theorem dX9_learning_13 : decode cX9_learning 13 = .ok (.istore_n 2, 1) := by decide +kernel
theorem dX9_learning_14 : decode cX9_learning 14 = .ok (.iload_n 2, 1) := by decide +kernel
theorem dX9_learning_15 : decode cX9_learning 15 = .ok (.bipush 50, 2) := by decide +kernel
theorem dX9_learning_17 : decode cX9_learning 17 = .ok (.if_icmp .ge 78, 3) := by decide +kernel
theorem dX9_learning_20 : decode cX9_learning 20 = .ok (.aload_n 0, 1) := by decide +kernel
theorem dX9_learning_21 : decode cX9_learning 21 = .ok (.getfield 205, 3) := by decide +kernel
theorem dX9_learning_24 : decode cX9_learning 24 = .ok (.ifCond .eq 71, 3) := by decide +kernel
theorem dX9_learning_27 : decode cX9_learning 27 = .ok (.aload_n 0, 1) := by decide +kernel
theorem dX9_learning_28 : decode cX9_learning 28 = .ok (.iconst 0, 1) := by decide +kernel
theorem dX9_learning_29 : decode cX9_learning 29 = .ok (.putfield 205, 3) := by decide +kernel
theorem dX9_learning_32 : decode cX9_learning 32 = .ok (.iconst 0, 1) := by decide +kernel
theorem dX9_learning_33 : decode cX9_learning 33 = .ok (.istore_n 3, 1) := by decide +kernel
theorem dX9_learning_34 : decode cX9_learning 34 = .ok (.iload_n 3, 1) := by decide +kernel
theorem dX9_learning_35 : decode cX9_learning 35 = .ok (.aload_n 0, 1) := by decide +kernel
theorem dX9_learning_36 : decode cX9_learning 36 = .ok (.getfield 7, 3) := by decide +kernel
theorem dX9_learning_39 : decode cX9_learning 39 = .ok (.iconst 2, 1) := by decide +kernel
theorem dX9_learning_40 : decode cX9_learning 40 = .ok (.iaload, 1) := by decide +kernel
theorem dX9_learning_41 : decode cX9_learning 41 = .ok (.if_icmp .ge 33, 3) := by decide +kernel
theorem dX9_learning_74 : decode cX9_learning 74 = .ok (.iload_n 1, 1) := by decide +kernel
theorem dX9_learning_75 : decode cX9_learning 75 = .ok (.aload_n 0, 1) := by decide +kernel
theorem dX9_learning_76 : decode cX9_learning 76 = .ok (.getfield 205, 3) := by decide +kernel
theorem dX9_learning_79 : decode cX9_learning 79 = .ok (.ifCond .eq 7, 3) := by decide +kernel
theorem dX9_learning_86 : decode cX9_learning 86 = .ok (.iconst 0, 1) := by decide +kernel
theorem dX9_learning_87 : decode cX9_learning 87 = .ok (.iadd, 1) := by decide +kernel
theorem dX9_learning_88 : decode cX9_learning 88 = .ok (.istore_n 1, 1) := by decide +kernel
theorem dX9_learning_89 : decode cX9_learning 89 = .ok (.iinc 2 1, 3) := by decide +kernel
theorem dX9_learning_92 : decode cX9_learning 92 = .ok (.goto (-78), 3) := by decide +kernel
theorem dX9_learning_95 : decode cX9_learning 95 = .ok (.iload_n 1, 1) := by decide +kernel
theorem dX9_learning_96 : decode cX9_learning 96 = .ok (.ireturn, 1) := by decide +kernel
theorem dX9_lies_0 : decode cX9_lies 0 = .ok (.aload_n 0, 1) := by decide +kernel
theorem dX9_lies_1 : decode cX9_lies 1 = .ok (.invokevirtual 217, 3) := by decide +kernel
theorem dX9_lies_4 : decode cX9_lies 4 = .ok (.aload_n 0, 1) := by decide +kernel
theorem dX9_lies_5 : decode cX9_lies 5 = .ok (.invokevirtual 214, 3) := by decide +kernel
theorem dX9_lies_8 : decode cX9_lies 8 = .ok (.istore_n 1, 1) := by decide +kernel
theorem dX9_lies_9 : decode cX9_lies 9 = .ok (.aload_n 0, 1) := by decide +kernel
theorem dX9_lies_10 : decode cX9_lies 10 = .ok (.invokevirtual 220, 3) := by decide +kernel
theorem dX9_lies_13 : decode cX9_lies 13 = .ok (.aload_n 0, 1) := by decide +kernel
theorem dX9_lies_14 : decode cX9_lies 14 = .ok (.getfield 208, 3) := by decide +kernel
theorem dX9_lies_17 : decode cX9_lies 17 = .ok (.ireturn, 1) := by decide +kernel
theorem dX9_live_0 : decode cX9_live 0 = .ok (.aload_n 0, 1) := by decide +kernel
theorem dX9_live_1 : decode cX9_live 1 = .ok (.invokevirtual 113, 3) := by decide +kernel
theorem dX9_live_4 : decode cX9_live 4 = .ok (.aload_n 0, 1) := by decide +kernel
theorem dX9_live_5 : decode cX9_live 5 = .ok (.getfield 109, 3) := by decide +kernel
theorem dX9_live_8 : decode cX9_live 8 = .ok (.ifCond .eq 10, 3) := by decide +kernel
theorem dX9_live_18 : decode cX9_live 18 = .ok (.aload_n 0, 1) := by decide +kernel
theorem dX9_live_19 : decode cX9_live 19 = .ok (.invokevirtual 171, 3) := by decide +kernel
theorem dX9_live_22 : decode cX9_live 22 = .ok (.istore_n 1, 1) := by decide +kernel
theorem dX9_live_23 : decode cX9_live 23 = .ok (.iload_n 1, 1) := by decide +kernel
theorem dX9_live_24 : decode cX9_live 24 = .ok (.ifCond .ge 12, 3) := by decide +kernel
theorem dX9_live_27 : decode cX9_live 27 = .ok (.aload_n 0, 1) := by decide +kernel
theorem dX9_live_28 : decode cX9_live 28 = .ok (.ldc 96, 2) := by decide +kernel
theorem dX9_live_30 : decode cX9_live 30 = .ok (.invokevirtual 70, 3) := by decide +kernel
theorem dX9_live_33 : decode cX9_live 33 = .ok (.goto 4, 3) := by decide +kernel
theorem dX9_live_37 : decode cX9_live 37 = .ok (.ireturn, 1) := by decide +kernel
theorem dX9_longer_0 : decode cX9_longer 0 = .ok (.aload_n 0, 1) := by decide +kernel
theorem dX9_longer_1 : decode cX9_longer 1 = .ok (.iload_n 1, 1) := by decide +kernel
theorem dX9_longer_2 : decode cX9_longer 2 = .ok (.invokevirtual 61, 3) := by decide +kernel
theorem dX9_longer_5 : decode cX9_longer 5 = .ok (.ifCond .eq 11, 3) := by decide +kernel
theorem dX9_longer_16 : decode cX9_longer 16 = .ok (.aload_n 0, 1) := by decide +kernel
theorem dX9_longer_17 : decode cX9_longer 17 = .ok (.ldc 56, 2) := by decide +kernel
theorem dX9_longer_19 : decode cX9_longer 19 = .ok (.invokevirtual 70, 3) := by decide +kernel
theorem dX9_longer_22 : decode cX9_longer 22 = .ok (.ireturn, 1) := by decide +kernel
theorem dX9_loops_0 : decode cX9_loops 0 = .ok (.aload_n 0, 1) := by decide +kernel
theorem dX9_loops_1 : decode cX9_loops 1 = .ok (.invokevirtual 113, 3) := by decide +kernel
theorem dX9_loops_4 : decode cX9_loops 4 = .ok (.iconst 0, 1) := by decide +kernel
theorem dX9_loops_5 : decode cX9_loops 5 = .ok (.istore_n 1, 1) := by decide +kernel
theorem dX9_loops_6 : decode cX9_loops 6 = .ok (.iconst 0, 1) := by decide +kernel
theorem dX9_loops_7 : decode cX9_loops 7 = .ok (.istore_n 2, 1) := by decide +kernel
theorem dX9_loops_8 : decode cX9_loops 8 = .ok (.iload_n 2, 1) := by decide +kernel
theorem dX9_loops_9 : decode cX9_loops 9 = .ok (.aload_n 0, 1) := by decide +kernel
theorem dX9_loops_10 : decode cX9_loops 10 = .ok (.getfield 7, 3) := by decide +kernel
theorem dX9_loops_13 : decode cX9_loops 13 = .ok (.iconst 0, 1) := by decide +kernel
theorem dX9_loops_14 : decode cX9_loops 14 = .ok (.iaload, 1) := by decide +kernel
theorem dX9_loops_15 : decode cX9_loops 15 = .ok (.if_icmp .ge 93, 3) := by decide +kernel
theorem dX9_loops_108 : decode cX9_loops 108 = .ok (.iload_n 1, 1) := by decide +kernel
theorem dX9_loops_109 : decode cX9_loops 109 = .ok (.ireturn, 1) := by decide +kernel
theorem dX9_meet_0 : decode cX9_meet 0 = .ok (.aload_n 0, 1) := by decide +kernel
theorem dX9_meet_1 : decode cX9_meet 1 = .ok (.iload_n 1, 1) := by decide +kernel
theorem dX9_meet_2 : decode cX9_meet 2 = .ok (.invokevirtual 61, 3) := by decide +kernel
theorem dX9_meet_5 : decode cX9_meet 5 = .ok (.ifCond .eq 23, 3) := by decide +kernel
theorem dX9_meet_28 : decode cX9_meet 28 = .ok (.aload_n 0, 1) := by decide +kernel
theorem dX9_meet_29 : decode cX9_meet 29 = .ok (.ldc 56, 2) := by decide +kernel
theorem dX9_meet_31 : decode cX9_meet 31 = .ok (.invokevirtual 70, 3) := by decide +kernel
theorem dX9_meet_34 : decode cX9_meet 34 = .ok (.ireturn, 1) := by decide +kernel
theorem dX9_mend_0 : decode cX9_mend 0 = .ok (.aload_n 0, 1) := by decide +kernel
theorem dX9_mend_1 : decode cX9_mend 1 = .ok (.invokevirtual 113, 3) := by decide +kernel
theorem dX9_mend_4 : decode cX9_mend 4 = .ok (.aload_n 0, 1) := by decide +kernel
theorem dX9_mend_5 : decode cX9_mend 5 = .ok (.getfield 109, 3) := by decide +kernel
theorem dX9_mend_8 : decode cX9_mend 8 = .ok (.ifCond .eq 10, 3) := by decide +kernel
theorem dX9_mend_18 : decode cX9_mend 18 = .ok (.aload_n 0, 1) := by decide +kernel
theorem dX9_mend_19 : decode cX9_mend 19 = .ok (.invokevirtual 226, 3) := by decide +kernel
theorem dX9_mend_22 : decode cX9_mend 22 = .ok (.istore_n 1, 1) := by decide +kernel
theorem dX9_mend_23 : decode cX9_mend 23 = .ok (.iconst (-1), 1) := by decide +kernel
theorem dX9_mend_24 : decode cX9_mend 24 = .ok (.istore_n 2, 1) := by decide +kernel
theorem dX9_mend_25 : decode cX9_mend 25 = .ok (.iconst 0, 1) := by decide +kernel
theorem dX9_mend_26 : decode cX9_mend 26 = .ok (.istore_n 3, 1) := by decide +kernel
theorem dX9_mend_27 : decode cX9_mend 27 = .ok (.iconst 0, 1) := by decide +kernel
theorem dX9_mend_28 : decode cX9_mend 28 = .ok (.istore 4, 2) := by decide +kernel
theorem dX9_mend_30 : decode cX9_mend 30 = .ok (.iload 4, 2) := by decide +kernel
theorem dX9_mend_32 : decode cX9_mend 32 = .ok (.aload_n 0, 1) := by decide +kernel
theorem dX9_mend_33 : decode cX9_mend 33 = .ok (.getfield 7, 3) := by decide +kernel
theorem dX9_mend_36 : decode cX9_mend 36 = .ok (.iconst 0, 1) := by decide +kernel
theorem dX9_mend_37 : decode cX9_mend 37 = .ok (.iaload, 1) := by decide +kernel
theorem dX9_mend_38 : decode cX9_mend 38 = .ok (.if_icmp .ge 94, 3) := by decide +kernel
theorem dX9_mend_132 : decode cX9_mend 132 = .ok (.iload_n 2, 1) := by decide +kernel
theorem dX9_mend_133 : decode cX9_mend 133 = .ok (.ifCond .ge 12, 3) := by decide +kernel
theorem dX9_mend_136 : decode cX9_mend 136 = .ok (.aload_n 0, 1) := by decide +kernel
theorem dX9_mend_137 : decode cX9_mend 137 = .ok (.ldc 96, 2) := by decide +kernel
theorem dX9_mend_139 : decode cX9_mend 139 = .ok (.invokevirtual 70, 3) := by decide +kernel
theorem dX9_mend_142 : decode cX9_mend 142 = .ok (.goto 4, 3) := by decide +kernel
theorem dX9_mend_146 : decode cX9_mend 146 = .ok (.ireturn, 1) := by decide +kernel
theorem dX9_needs_0 : decode cX9_needs 0 = .ok (.aload_n 0, 1) := by decide +kernel
theorem dX9_needs_1 : decode cX9_needs 1 = .ok (.aload_n 0, 1) := by decide +kernel
theorem dX9_needs_2 : decode cX9_needs 2 = .ok (.getfield 266, 3) := by decide +kernel
theorem dX9_needs_5 : decode cX9_needs 5 = .ok (.ifCond .ne 7, 3) := by decide +kernel
theorem dX9_needs_8 : decode cX9_needs 8 = .ok (.iload_n 1, 1) := by decide +kernel
theorem dX9_needs_9 : decode cX9_needs 9 = .ok (.ifCond .ne 7, 3) := by decide +kernel
theorem dX9_needs_12 : decode cX9_needs 12 = .ok (.iconst 1, 1) := by decide +kernel
theorem dX9_needs_13 : decode cX9_needs 13 = .ok (.goto 4, 3) := by decide +kernel
theorem dX9_needs_17 : decode cX9_needs 17 = .ok (.putfield 266, 3) := by decide +kernel
theorem dX9_needs_20 : decode cX9_needs 20 = .ok (.aload_n 0, 1) := by decide +kernel
theorem dX9_needs_21 : decode cX9_needs 21 = .ok (.getfield 266, 3) := by decide +kernel
theorem dX9_needs_24 : decode cX9_needs 24 = .ok (.ifCond .ne 7, 3) := by decide +kernel
theorem dX9_needs_31 : decode cX9_needs 31 = .ok (.return_, 1) := by decide +kernel
theorem dX9_newPlace_0 : decode cX9_newPlace 0 = .ok (.aload_n 0, 1) := by decide +kernel
theorem dX9_newPlace_1 : decode cX9_newPlace 1 = .ok (.getfield 7, 3) := by decide +kernel
theorem dX9_newPlace_4 : decode cX9_newPlace 4 = .ok (.iconst 0, 1) := by decide +kernel
theorem dX9_newPlace_5 : decode cX9_newPlace 5 = .ok (.dup2, 1) := by decide +kernel
theorem dX9_newPlace_6 : decode cX9_newPlace 6 = .ok (.iaload, 1) := by decide +kernel
theorem dX9_newPlace_7 : decode cX9_newPlace 7 = .ok (.iconst 1, 1) := by decide +kernel
theorem dX9_newPlace_8 : decode cX9_newPlace 8 = .ok (.iadd, 1) := by decide +kernel
theorem dX9_newPlace_9 : decode cX9_newPlace 9 = .ok (.iastore, 1) := by decide +kernel
theorem dX9_newPlace_10 : decode cX9_newPlace 10 = .ok (.aload_n 0, 1) := by decide +kernel
theorem dX9_newPlace_11 : decode cX9_newPlace 11 = .ok (.getfield 7, 3) := by decide +kernel
theorem dX9_newPlace_14 : decode cX9_newPlace 14 = .ok (.iconst 0, 1) := by decide +kernel
theorem dX9_newPlace_15 : decode cX9_newPlace 15 = .ok (.iaload, 1) := by decide +kernel
theorem dX9_newPlace_16 : decode cX9_newPlace 16 = .ok (.iconst 1, 1) := by decide +kernel
theorem dX9_newPlace_17 : decode cX9_newPlace 17 = .ok (.isub, 1) := by decide +kernel
theorem dX9_newPlace_18 : decode cX9_newPlace 18 = .ok (.ireturn, 1) := by decide +kernel
theorem dX9_next_0 : decode cX9_next 0 = .ok (.aload_n 0, 1) := by decide +kernel
theorem dX9_next_1 : decode cX9_next 1 = .ok (.aload_n 0, 1) := by decide +kernel
theorem dX9_next_2 : decode cX9_next 2 = .ok (.getfield 251, 3) := by decide +kernel
theorem dX9_next_5 : decode cX9_next 5 = .ok (.putfield 254, 3) := by decide +kernel
theorem dX9_next_8 : decode cX9_next 8 = .ok (.aload_n 0, 1) := by decide +kernel
theorem dX9_next_9 : decode cX9_next 9 = .ok (.aload_n 0, 1) := by decide +kernel
theorem dX9_next_10 : decode cX9_next 10 = .ok (.getfield 254, 3) := by decide +kernel
theorem dX9_next_13 : decode cX9_next 13 = .ok (.invokevirtual 257, 3) := by decide +kernel
theorem dX9_next_16 : decode cX9_next 16 = .ok (.bipush 32, 2) := by decide +kernel
theorem dX9_next_18 : decode cX9_next 18 = .ok (.if_icmp .ne 16, 3) := by decide +kernel
theorem dX9_next_34 : decode cX9_next 34 = .ok (.aload_n 0, 1) := by decide +kernel
theorem dX9_next_35 : decode cX9_next 35 = .ok (.aload_n 0, 1) := by decide +kernel
theorem dX9_next_36 : decode cX9_next 36 = .ok (.getfield 254, 3) := by decide +kernel
theorem dX9_next_39 : decode cX9_next 39 = .ok (.invokevirtual 257, 3) := by decide +kernel
theorem dX9_next_42 : decode cX9_next 42 = .ok (.invokestatic 260, 3) := by decide +kernel
theorem dX9_next_45 : decode cX9_next 45 = .ok (.istore_n 1, 1) := by decide +kernel
theorem dX9_next_46 : decode cX9_next 46 = .ok (.aload_n 0, 1) := by decide +kernel
theorem dX9_next_47 : decode cX9_next 47 = .ok (.aload_n 0, 1) := by decide +kernel
theorem dX9_next_48 : decode cX9_next 48 = .ok (.getfield 254, 3) := by decide +kernel
theorem dX9_next_51 : decode cX9_next 51 = .ok (.invokevirtual 257, 3) := by decide +kernel
theorem dX9_next_54 : decode cX9_next 54 = .ok (.invokestatic 263, 3) := by decide +kernel
theorem dX9_next_57 : decode cX9_next 57 = .ok (.istore_n 2, 1) := by decide +kernel
theorem dX9_next_58 : decode cX9_next 58 = .ok (.aload_n 0, 1) := by decide +kernel
theorem dX9_next_59 : decode cX9_next 59 = .ok (.aload_n 0, 1) := by decide +kernel
theorem dX9_next_60 : decode cX9_next 60 = .ok (.getfield 254, 3) := by decide +kernel
theorem dX9_next_63 : decode cX9_next 63 = .ok (.aload_n 0, 1) := by decide +kernel
theorem dX9_next_64 : decode cX9_next 64 = .ok (.getfield 240, 3) := by decide +kernel
theorem dX9_next_67 : decode cX9_next 67 = .ok (.if_icmp .ge 12, 3) := by decide +kernel
theorem dX9_next_79 : decode cX9_next 79 = .ok (.aload_n 0, 1) := by decide +kernel
theorem dX9_next_80 : decode cX9_next 80 = .ok (.getfield 254, 3) := by decide +kernel
theorem dX9_next_83 : decode cX9_next 83 = .ok (.putfield 251, 3) := by decide +kernel
theorem dX9_next_86 : decode cX9_next 86 = .ok (.iload_n 1, 1) := by decide +kernel
theorem dX9_next_87 : decode cX9_next 87 = .ok (.ifCond .eq 17, 3) := by decide +kernel
theorem dX9_next_104 : decode cX9_next 104 = .ok (.iload_n 2, 1) := by decide +kernel
theorem dX9_next_105 : decode cX9_next 105 = .ok (.ifCond .eq 30, 3) := by decide +kernel
theorem dX9_next_135 : decode cX9_next 135 = .ok (.return_, 1) := by decide +kernel
theorem dX9_on_0 : decode cX9_on 0 = .ok (.iload_n 1, 1) := by decide +kernel
theorem dX9_on_1 : decode cX9_on 1 = .ok (.i2l, 1) := by decide +kernel
theorem dX9_on_2 : decode cX9_on 2 = .ok (.lconst 0, 1) := by decide +kernel
theorem dX9_on_3 : decode cX9_on 3 = .ok (.aload_n 0, 1) := by decide +kernel
theorem dX9_on_4 : decode cX9_on 4 = .ok (.getfield 7, 3) := by decide +kernel
theorem dX9_on_7 : decode cX9_on 7 = .ok (.iconst 2, 1) := by decide +kernel
theorem dX9_on_8 : decode cX9_on 8 = .ok (.iaload, 1) := by decide +kernel
theorem dX9_on_9 : decode cX9_on 9 = .ok (.iconst 1, 1) := by decide +kernel
theorem dX9_on_10 : decode cX9_on 10 = .ok (.isub, 1) := by decide +kernel
theorem dX9_on_11 : decode cX9_on 11 = .ok (.i2l, 1) := by decide +kernel
theorem dX9_on_12 : decode cX9_on 12 = .ok (.invokestatic 57, 3) := by decide +kernel
theorem dX9_on_15 : decode cX9_on 15 = .ok (.ifCond .eq 44, 3) := by decide +kernel
theorem dX9_on_59 : decode cX9_on 59 = .ok (.aload_n 0, 1) := by decide +kernel
theorem dX9_on_60 : decode cX9_on 60 = .ok (.ldc 56, 2) := by decide +kernel
theorem dX9_on_62 : decode cX9_on 62 = .ok (.invokevirtual 70, 3) := by decide +kernel
theorem dX9_on_65 : decode cX9_on 65 = .ok (.ireturn, 1) := by decide +kernel
theorem dX9_over_0 : decode cX9_over 0 = .ok (.aload_n 0, 1) := by decide +kernel
theorem dX9_over_1 : decode cX9_over 1 = .ok (.iload_n 1, 1) := by decide +kernel
theorem dX9_over_2 : decode cX9_over 2 = .ok (.invokevirtual 123, 3) := by decide +kernel
theorem dX9_over_5 : decode cX9_over 5 = .ok (.ifCond .eq 11, 3) := by decide +kernel
theorem dX9_over_16 : decode cX9_over 16 = .ok (.aload_n 0, 1) := by decide +kernel
theorem dX9_over_17 : decode cX9_over 17 = .ok (.ldc 56, 2) := by decide +kernel
theorem dX9_over_19 : decode cX9_over 19 = .ok (.invokevirtual 70, 3) := by decide +kernel
theorem dX9_over_22 : decode cX9_over 22 = .ok (.ireturn, 1) := by decide +kernel
theorem dX9_paper_0 : decode cX9_paper 0 = .ok (.aload_n 0, 1) := by decide +kernel
theorem dX9_paper_1 : decode cX9_paper 1 = .ok (.iload_n 1, 1) := by decide +kernel
theorem dX9_paper_2 : decode cX9_paper 2 = .ok (.iload_n 2, 1) := by decide +kernel
theorem dX9_paper_3 : decode cX9_paper 3 = .ok (.invokevirtual 80, 3) := by decide +kernel
theorem dX9_paper_6 : decode cX9_paper 6 = .ok (.ifCond .ne 10, 3) := by decide +kernel
theorem dX9_paper_9 : decode cX9_paper 9 = .ok (.aload_n 0, 1) := by decide +kernel
theorem dX9_paper_10 : decode cX9_paper 10 = .ok (.ldc 56, 2) := by decide +kernel
theorem dX9_paper_12 : decode cX9_paper 12 = .ok (.invokevirtual 70, 3) := by decide +kernel
theorem dX9_paper_15 : decode cX9_paper 15 = .ok (.ireturn, 1) := by decide +kernel
theorem dX9_place_0 : decode cX9_place 0 = .ok (.aload_n 0, 1) := by decide +kernel
theorem dX9_place_1 : decode cX9_place 1 = .ok (.getfield 7, 3) := by decide +kernel
theorem dX9_place_4 : decode cX9_place 4 = .ok (.iconst 0, 1) := by decide +kernel
theorem dX9_place_5 : decode cX9_place 5 = .ok (.iaload, 1) := by decide +kernel
theorem dX9_place_6 : decode cX9_place 6 = .ok (.bipush 10, 2) := by decide +kernel
theorem dX9_place_8 : decode cX9_place 8 = .ok (.if_icmp .ne 12, 3) := by decide +kernel
theorem dX9_place_20 : decode cX9_place 20 = .ok (.aload_n 0, 1) := by decide +kernel
theorem dX9_place_21 : decode cX9_place 21 = .ok (.invokevirtual 74, 3) := by decide +kernel
theorem dX9_place_24 : decode cX9_place 24 = .ok (.ireturn, 1) := by decide +kernel
theorem dX9_puts_0 : decode cX9_puts 0 = .ok (.iconst 0, 1) := by decide +kernel
theorem dX9_puts_1 : decode cX9_puts 1 = .ok (.istore_n 1, 1) := by decide +kernel
theorem dX9_puts_2 : decode cX9_puts 2 = .ok (.iload_n 1, 1) := by decide +kernel
theorem dX9_puts_3 : decode cX9_puts 3 = .ok (.sipush 449, 3) := by decide +kernel
theorem dX9_puts_6 : decode cX9_puts 6 = .ok (.if_icmp .ge 21, 3) := by decide +kernel
theorem dX9_puts_9 : decode cX9_puts 9 = .ok (.aload_n 0, 1) := by decide +kernel
theorem dX9_puts_10 : decode cX9_puts 10 = .ok (.getfield 16, 3) := by decide +kernel
theorem dX9_puts_13 : decode cX9_puts 13 = .ok (.iload_n 1, 1) := by decide +kernel
theorem dX9_puts_14 : decode cX9_puts 14 = .ok (.aload_n 0, 1) := by decide +kernel
theorem dX9_puts_15 : decode cX9_puts 15 = .ok (.getfield 7, 3) := by decide +kernel
theorem dX9_puts_18 : decode cX9_puts 18 = .ok (.iload_n 1, 1) := by decide +kernel
theorem dX9_puts_19 : decode cX9_puts 19 = .ok (.iaload, 1) := by decide +kernel
theorem dX9_puts_20 : decode cX9_puts 20 = .ok (.iastore, 1) := by decide +kernel
theorem dX9_puts_21 : decode cX9_puts 21 = .ok (.iinc 1 1, 3) := by decide +kernel
theorem dX9_puts_24 : decode cX9_puts 24 = .ok (.goto (-22), 3) := by decide +kernel
theorem dX9_puts_27 : decode cX9_puts 27 = .ok (.return_, 1) := by decide +kernel
theorem dX9_putsBack_0 : decode cX9_putsBack 0 = .ok (.iconst 0, 1) := by decide +kernel
theorem dX9_putsBack_1 : decode cX9_putsBack 1 = .ok (.istore_n 1, 1) := by decide +kernel
theorem dX9_putsBack_2 : decode cX9_putsBack 2 = .ok (.iload_n 1, 1) := by decide +kernel
theorem dX9_putsBack_3 : decode cX9_putsBack 3 = .ok (.sipush 449, 3) := by decide +kernel
theorem dX9_putsBack_6 : decode cX9_putsBack 6 = .ok (.if_icmp .ge 21, 3) := by decide +kernel
theorem dX9_putsBack_9 : decode cX9_putsBack 9 = .ok (.aload_n 0, 1) := by decide +kernel
theorem dX9_putsBack_10 : decode cX9_putsBack 10 = .ok (.getfield 7, 3) := by decide +kernel
theorem dX9_putsBack_13 : decode cX9_putsBack 13 = .ok (.iload_n 1, 1) := by decide +kernel
theorem dX9_putsBack_14 : decode cX9_putsBack 14 = .ok (.aload_n 0, 1) := by decide +kernel
theorem dX9_putsBack_15 : decode cX9_putsBack 15 = .ok (.getfield 16, 3) := by decide +kernel
theorem dX9_putsBack_18 : decode cX9_putsBack 18 = .ok (.iload_n 1, 1) := by decide +kernel
theorem dX9_putsBack_19 : decode cX9_putsBack 19 = .ok (.iaload, 1) := by decide +kernel
theorem dX9_putsBack_20 : decode cX9_putsBack 20 = .ok (.iastore, 1) := by decide +kernel
theorem dX9_putsBack_21 : decode cX9_putsBack 21 = .ok (.iinc 1 1, 3) := by decide +kernel
theorem dX9_putsBack_24 : decode cX9_putsBack 24 = .ok (.goto (-22), 3) := by decide +kernel
theorem dX9_putsBack_27 : decode cX9_putsBack 27 = .ok (.return_, 1) := by decide +kernel
theorem dX9_read_0 : decode cX9_read 0 = .ok (.aload_n 0, 1) := by decide +kernel
theorem dX9_read_1 : decode cX9_read 1 = .ok (.iload_n 1, 1) := by decide +kernel
theorem dX9_read_2 : decode cX9_read 2 = .ok (.invokevirtual 310, 3) := by decide +kernel
theorem dX9_read_5 : decode cX9_read 5 = .ok (.istore_n 2, 1) := by decide +kernel
theorem dX9_read_6 : decode cX9_read 6 = .ok (.iload_n 2, 1) := by decide +kernel
theorem dX9_read_7 : decode cX9_read 7 = .ok (.ifCond .eq 9, 3) := by decide +kernel
theorem dX9_read_10 : decode cX9_read 10 = .ok (.aload_n 0, 1) := by decide +kernel
theorem dX9_read_11 : decode cX9_read 11 = .ok (.iload_n 2, 1) := by decide +kernel
theorem dX9_read_12 : decode cX9_read 12 = .ok (.invokevirtual 70, 3) := by decide +kernel
theorem dX9_read_15 : decode cX9_read 15 = .ok (.ireturn, 1) := by decide +kernel
theorem dX9_round_0 : decode cX9_round 0 = .ok (.iload_n 1, 1) := by decide +kernel
theorem dX9_round_1 : decode cX9_round 1 = .ok (.i2l, 1) := by decide +kernel
theorem dX9_round_2 : decode cX9_round 2 = .ok (.lconst 0, 1) := by decide +kernel
theorem dX9_round_3 : decode cX9_round 3 = .ok (.ldc2_w 121, 3) := by decide +kernel
theorem dX9_round_6 : decode cX9_round 6 = .ok (.invokestatic 57, 3) := by decide +kernel
theorem dX9_round_9 : decode cX9_round 9 = .ok (.ifCond .eq 11, 3) := by decide +kernel
theorem dX9_round_12 : decode cX9_round 12 = .ok (.aload_n 0, 1) := by decide +kernel
theorem dX9_round_13 : decode cX9_round 13 = .ok (.iload_n 2, 1) := by decide +kernel
theorem dX9_round_14 : decode cX9_round 14 = .ok (.invokevirtual 61, 3) := by decide +kernel
theorem dX9_round_17 : decode cX9_round 17 = .ok (.ifCond .ne 10, 3) := by decide +kernel
theorem dX9_round_20 : decode cX9_round 20 = .ok (.aload_n 0, 1) := by decide +kernel
theorem dX9_round_21 : decode cX9_round 21 = .ok (.ldc 56, 2) := by decide +kernel
theorem dX9_round_23 : decode cX9_round 23 = .ok (.invokevirtual 70, 3) := by decide +kernel
theorem dX9_round_26 : decode cX9_round 26 = .ok (.ireturn, 1) := by decide +kernel
theorem dX9_roundOf_0 : decode cX9_roundOf 0 = .ok (.aload_n 0, 1) := by decide +kernel
theorem dX9_roundOf_1 : decode cX9_roundOf 1 = .ok (.iload_n 1, 1) := by decide +kernel
theorem dX9_roundOf_2 : decode cX9_roundOf 2 = .ok (.invokevirtual 123, 3) := by decide +kernel
theorem dX9_roundOf_5 : decode cX9_roundOf 5 = .ok (.ifCond .eq 17, 3) := by decide +kernel
theorem dX9_roundOf_22 : decode cX9_roundOf 22 = .ok (.aload_n 0, 1) := by decide +kernel
theorem dX9_roundOf_23 : decode cX9_roundOf 23 = .ok (.ldc 56, 2) := by decide +kernel
theorem dX9_roundOf_25 : decode cX9_roundOf 25 = .ok (.invokevirtual 70, 3) := by decide +kernel
theorem dX9_roundOf_28 : decode cX9_roundOf 28 = .ok (.ireturn, 1) := by decide +kernel
theorem dX9_saves_0 : decode cX9_saves 0 = .ok (.aload_n 0, 1) := by decide +kernel
theorem dX9_saves_1 : decode cX9_saves 1 = .ok (.iload_n 1, 1) := by decide +kernel
theorem dX9_saves_2 : decode cX9_saves 2 = .ok (.iload_n 2, 1) := by decide +kernel
theorem dX9_saves_3 : decode cX9_saves 3 = .ok (.invokevirtual 80, 3) := by decide +kernel
theorem dX9_saves_6 : decode cX9_saves 6 = .ok (.ifCond .ne 10, 3) := by decide +kernel
theorem dX9_saves_9 : decode cX9_saves 9 = .ok (.aload_n 0, 1) := by decide +kernel
theorem dX9_saves_10 : decode cX9_saves 10 = .ok (.ldc 56, 2) := by decide +kernel
theorem dX9_saves_12 : decode cX9_saves 12 = .ok (.invokevirtual 70, 3) := by decide +kernel
theorem dX9_saves_15 : decode cX9_saves 15 = .ok (.ireturn, 1) := by decide +kernel
theorem dX9_sheet_0 : decode cX9_sheet 0 = .ok (.iload_n 1, 1) := by decide +kernel
theorem dX9_sheet_1 : decode cX9_sheet 1 = .ok (.invokestatic 305, 3) := by decide +kernel
theorem dX9_sheet_4 : decode cX9_sheet 4 = .ok (.ifCond .eq 25, 3) := by decide +kernel
theorem dX9_sheet_7 : decode cX9_sheet 7 = .ok (.iload_n 2, 1) := by decide +kernel
theorem dX9_sheet_8 : decode cX9_sheet 8 = .ok (.ifCond .eq 28, 3) := by decide +kernel
theorem dX9_sheet_11 : decode cX9_sheet 11 = .ok (.iload_n 2, 1) := by decide +kernel
theorem dX9_sheet_12 : decode cX9_sheet 12 = .ok (.bipush 8, 2) := by decide +kernel
theorem dX9_sheet_14 : decode cX9_sheet 14 = .ok (.if_icmp .eq 22, 3) := by decide +kernel
theorem dX9_sheet_17 : decode cX9_sheet 17 = .ok (.iload_n 2, 1) := by decide +kernel
theorem dX9_sheet_18 : decode cX9_sheet 18 = .ok (.bipush 16, 2) := by decide +kernel
theorem dX9_sheet_20 : decode cX9_sheet 20 = .ok (.if_icmp .eq 16, 3) := by decide +kernel
theorem dX9_sheet_23 : decode cX9_sheet 23 = .ok (.iload_n 2, 1) := by decide +kernel
theorem dX9_sheet_24 : decode cX9_sheet 24 = .ok (.bipush 64, 2) := by decide +kernel
theorem dX9_sheet_26 : decode cX9_sheet 26 = .ok (.if_icmp .eq 10, 3) := by decide +kernel
theorem dX9_sheet_29 : decode cX9_sheet 29 = .ok (.aload_n 0, 1) := by decide +kernel
theorem dX9_sheet_30 : decode cX9_sheet 30 = .ok (.ldc 56, 2) := by decide +kernel
theorem dX9_sheet_32 : decode cX9_sheet 32 = .ok (.invokevirtual 70, 3) := by decide +kernel
theorem dX9_sheet_35 : decode cX9_sheet 35 = .ok (.ireturn, 1) := by decide +kernel
theorem dX9_sheet_36 : decode cX9_sheet 36 = .ok (.iload_n 3, 1) := by decide +kernel
theorem dX9_sheet_37 : decode cX9_sheet 37 = .ok (.ifCond .ge 11, 3) := by decide +kernel
theorem dX9_sheet_40 : decode cX9_sheet 40 = .ok (.aload_n 0, 1) := by decide +kernel
theorem dX9_sheet_41 : decode cX9_sheet 41 = .ok (.ldc_w 308, 3) := by decide +kernel
theorem dX9_sheet_44 : decode cX9_sheet 44 = .ok (.invokevirtual 70, 3) := by decide +kernel
theorem dX9_sheet_47 : decode cX9_sheet 47 = .ok (.ireturn, 1) := by decide +kernel
theorem dX9_sheet_48 : decode cX9_sheet 48 = .ok (.iload_n 3, 1) := by decide +kernel
theorem dX9_sheet_49 : decode cX9_sheet 49 = .ok (.bipush 40, 2) := by decide +kernel
theorem dX9_sheet_51 : decode cX9_sheet 51 = .ok (.if_icmp .le 10, 3) := by decide +kernel
theorem dX9_sheet_54 : decode cX9_sheet 54 = .ok (.aload_n 0, 1) := by decide +kernel
theorem dX9_sheet_55 : decode cX9_sheet 55 = .ok (.ldc 56, 2) := by decide +kernel
theorem dX9_sheet_57 : decode cX9_sheet 57 = .ok (.invokevirtual 70, 3) := by decide +kernel
theorem dX9_sheet_60 : decode cX9_sheet 60 = .ok (.ireturn, 1) := by decide +kernel
theorem dX9_sheet_61 : decode cX9_sheet 61 = .ok (.aload_n 0, 1) := by decide +kernel
theorem dX9_sheet_62 : decode cX9_sheet 62 = .ok (.getfield 43, 3) := by decide +kernel
theorem dX9_sheet_65 : decode cX9_sheet 65 = .ok (.iload_n 1, 1) := by decide +kernel
theorem dX9_sheet_66 : decode cX9_sheet 66 = .ok (.iload_n 2, 1) := by decide +kernel
theorem dX9_sheet_67 : decode cX9_sheet 67 = .ok (.iastore, 1) := by decide +kernel
theorem dX9_sheet_68 : decode cX9_sheet 68 = .ok (.aload_n 0, 1) := by decide +kernel
theorem dX9_sheet_69 : decode cX9_sheet 69 = .ok (.getfield 46, 3) := by decide +kernel
theorem dX9_sheet_72 : decode cX9_sheet 72 = .ok (.iload_n 1, 1) := by decide +kernel
theorem dX9_sheet_73 : decode cX9_sheet 73 = .ok (.iload_n 2, 1) := by decide +kernel
theorem dX9_sheet_74 : decode cX9_sheet 74 = .ok (.ifCond .ne 7, 3) := by decide +kernel
theorem dX9_sheet_77 : decode cX9_sheet 77 = .ok (.iconst 0, 1) := by decide +kernel
theorem dX9_sheet_78 : decode cX9_sheet 78 = .ok (.goto 4, 3) := by decide +kernel
theorem dX9_sheet_81 : decode cX9_sheet 81 = .ok (.iload_n 3, 1) := by decide +kernel
theorem dX9_sheet_82 : decode cX9_sheet 82 = .ok (.iastore, 1) := by decide +kernel
theorem dX9_sheet_83 : decode cX9_sheet 83 = .ok (.iconst 0, 1) := by decide +kernel
theorem dX9_sheet_84 : decode cX9_sheet 84 = .ok (.istore 4, 2) := by decide +kernel
theorem dX9_sheet_86 : decode cX9_sheet 86 = .ok (.iload 4, 2) := by decide +kernel
theorem dX9_sheet_88 : decode cX9_sheet 88 = .ok (.bipush 40, 2) := by decide +kernel
theorem dX9_sheet_90 : decode cX9_sheet 90 = .ok (.if_icmp .ge 22, 3) := by decide +kernel
theorem dX9_sheet_93 : decode cX9_sheet 93 = .ok (.aload_n 0, 1) := by decide +kernel
theorem dX9_sheet_94 : decode cX9_sheet 94 = .ok (.getfield 49, 3) := by decide +kernel
theorem dX9_sheet_97 : decode cX9_sheet 97 = .ok (.bipush 40, 2) := by decide +kernel
theorem dX9_sheet_99 : decode cX9_sheet 99 = .ok (.iload_n 1, 1) := by decide +kernel
theorem dX9_sheet_100 : decode cX9_sheet 100 = .ok (.imul, 1) := by decide +kernel
theorem dX9_sheet_101 : decode cX9_sheet 101 = .ok (.iload 4, 2) := by decide +kernel
theorem dX9_sheet_103 : decode cX9_sheet 103 = .ok (.iadd, 1) := by decide +kernel
theorem dX9_sheet_104 : decode cX9_sheet 104 = .ok (.lconst 0, 1) := by decide +kernel
theorem dX9_sheet_105 : decode cX9_sheet 105 = .ok (.lastore, 1) := by decide +kernel
theorem dX9_sheet_106 : decode cX9_sheet 106 = .ok (.iinc 4 1, 3) := by decide +kernel
theorem dX9_sheet_109 : decode cX9_sheet 109 = .ok (.goto (-23), 3) := by decide +kernel
theorem dX9_sheet_112 : decode cX9_sheet 112 = .ok (.aload_n 0, 1) := by decide +kernel
theorem dX9_sheet_113 : decode cX9_sheet 113 = .ok (.getfield 46, 3) := by decide +kernel
theorem dX9_sheet_116 : decode cX9_sheet 116 = .ok (.iload_n 1, 1) := by decide +kernel
theorem dX9_sheet_117 : decode cX9_sheet 117 = .ok (.iaload, 1) := by decide +kernel
theorem dX9_sheet_118 : decode cX9_sheet 118 = .ok (.ireturn, 1) := by decide +kernel
theorem dX9_shut_0 : decode cX9_shut 0 = .ok (.aload_n 0, 1) := by decide +kernel
theorem dX9_shut_1 : decode cX9_shut 1 = .ok (.iload_n 1, 1) := by decide +kernel
theorem dX9_shut_2 : decode cX9_shut 2 = .ok (.iload_n 2, 1) := by decide +kernel
theorem dX9_shut_3 : decode cX9_shut 3 = .ok (.invokevirtual 80, 3) := by decide +kernel
theorem dX9_shut_6 : decode cX9_shut 6 = .ok (.ifCond .ne 10, 3) := by decide +kernel
theorem dX9_shut_9 : decode cX9_shut 9 = .ok (.aload_n 0, 1) := by decide +kernel
theorem dX9_shut_10 : decode cX9_shut 10 = .ok (.ldc 56, 2) := by decide +kernel
theorem dX9_shut_12 : decode cX9_shut 12 = .ok (.invokevirtual 70, 3) := by decide +kernel
theorem dX9_shut_15 : decode cX9_shut 15 = .ok (.ireturn, 1) := by decide +kernel
theorem dX9_status_0 : decode cX9_status 0 = .ok (.iload_n 1, 1) := by decide +kernel
theorem dX9_status_1 : decode cX9_status 1 = .ok (.i2l, 1) := by decide +kernel
theorem dX9_status_2 : decode cX9_status 2 = .ok (.ldc2_w 117, 3) := by decide +kernel
theorem dX9_status_5 : decode cX9_status 5 = .ok (.ldc2_w 121, 3) := by decide +kernel
theorem dX9_status_8 : decode cX9_status 8 = .ok (.invokestatic 57, 3) := by decide +kernel
theorem dX9_status_11 : decode cX9_status 11 = .ok (.ifCond .ne 10, 3) := by decide +kernel
theorem dX9_status_14 : decode cX9_status 14 = .ok (.aload_n 0, 1) := by decide +kernel
theorem dX9_status_15 : decode cX9_status 15 = .ok (.ldc 56, 2) := by decide +kernel
theorem dX9_status_17 : decode cX9_status 17 = .ok (.invokevirtual 70, 3) := by decide +kernel
theorem dX9_status_20 : decode cX9_status 20 = .ok (.ireturn, 1) := by decide +kernel
theorem dX9_status_21 : decode cX9_status 21 = .ok (.iconst 0, 1) := by decide +kernel
theorem dX9_status_22 : decode cX9_status 22 = .ok (.istore_n 2, 1) := by decide +kernel
theorem dX9_status_23 : decode cX9_status 23 = .ok (.iconst 0, 1) := by decide +kernel
theorem dX9_status_24 : decode cX9_status 24 = .ok (.istore_n 3, 1) := by decide +kernel
theorem dX9_status_25 : decode cX9_status 25 = .ok (.iload_n 3, 1) := by decide +kernel
theorem dX9_status_26 : decode cX9_status 26 = .ok (.bipush 7, 2) := by decide +kernel
theorem dX9_status_28 : decode cX9_status 28 = .ok (.if_icmp .ge 31, 3) := by decide +kernel
theorem dX9_status_31 : decode cX9_status 31 = .ok (.iload_n 2, 1) := by decide +kernel
theorem dX9_status_32 : decode cX9_status 32 = .ok (.iload_n 1, 1) := by decide +kernel
theorem dX9_status_33 : decode cX9_status 33 = .ok (.ifCond .lt 8, 3) := by decide +kernel
theorem dX9_status_36 : decode cX9_status 36 = .ok (.iload_n 3, 1) := by decide +kernel
theorem dX9_status_37 : decode cX9_status 37 = .ok (.iload_n 1, 1) := by decide +kernel
theorem dX9_status_38 : decode cX9_status 38 = .ok (.if_icmp .ne 12, 3) := by decide +kernel
theorem dX9_status_41 : decode cX9_status 41 = .ok (.aload_n 0, 1) := by decide +kernel
theorem dX9_status_42 : decode cX9_status 42 = .ok (.getfield 19, 3) := by decide +kernel
theorem dX9_status_45 : decode cX9_status 45 = .ok (.iload_n 3, 1) := by decide +kernel
theorem dX9_status_46 : decode cX9_status 46 = .ok (.iaload, 1) := by decide +kernel
theorem dX9_status_47 : decode cX9_status 47 = .ok (.goto 4, 3) := by decide +kernel
theorem dX9_status_50 : decode cX9_status 50 = .ok (.iconst 0, 1) := by decide +kernel
theorem dX9_status_51 : decode cX9_status 51 = .ok (.iadd, 1) := by decide +kernel
theorem dX9_status_52 : decode cX9_status 52 = .ok (.istore_n 2, 1) := by decide +kernel
theorem dX9_status_53 : decode cX9_status 53 = .ok (.iinc 3 1, 3) := by decide +kernel
theorem dX9_status_56 : decode cX9_status 56 = .ok (.goto (-31), 3) := by decide +kernel
theorem dX9_status_59 : decode cX9_status 59 = .ok (.iload_n 2, 1) := by decide +kernel
theorem dX9_status_60 : decode cX9_status 60 = .ok (.ireturn, 1) := by decide +kernel
theorem dX9_sum_0 : decode cX9_sum 0 = .ok (.aload_n 0, 1) := by decide +kernel
theorem dX9_sum_1 : decode cX9_sum 1 = .ok (.iload_n 1, 1) := by decide +kernel
theorem dX9_sum_2 : decode cX9_sum 2 = .ok (.invokevirtual 123, 3) := by decide +kernel
theorem dX9_sum_5 : decode cX9_sum 5 = .ok (.ifCond .ne 10, 3) := by decide +kernel
theorem dX9_sum_8 : decode cX9_sum 8 = .ok (.aload_n 0, 1) := by decide +kernel
theorem dX9_sum_9 : decode cX9_sum 9 = .ok (.ldc 56, 2) := by decide +kernel
theorem dX9_sum_11 : decode cX9_sum 11 = .ok (.invokevirtual 70, 3) := by decide +kernel
theorem dX9_sum_14 : decode cX9_sum 14 = .ok (.ireturn, 1) := by decide +kernel
theorem dX9_tear_0 : decode cX9_tear 0 = .ok (.aload_n 0, 1) := by decide +kernel
theorem dX9_tear_1 : decode cX9_tear 1 = .ok (.getfield 317, 3) := by decide +kernel
theorem dX9_tear_4 : decode cX9_tear 4 = .ok (.ifCond .eq 7, 3) := by decide +kernel
theorem dX9_tear_11 : decode cX9_tear 11 = .ok (.iconst 0, 1) := by decide +kernel
theorem dX9_tear_12 : decode cX9_tear 12 = .ok (.istore_n 1, 1) := by decide +kernel
theorem dX9_tear_13 : decode cX9_tear 13 = .ok (.aload_n 0, 1) := by decide +kernel
theorem dX9_tear_14 : decode cX9_tear 14 = .ok (.iconst 0, 1) := by decide +kernel
theorem dX9_tear_15 : decode cX9_tear 15 = .ok (.putfield 317, 3) := by decide +kernel
theorem dX9_tear_18 : decode cX9_tear 18 = .ok (.iload_n 1, 1) := by decide +kernel
theorem dX9_tear_19 : decode cX9_tear 19 = .ok (.ireturn, 1) := by decide +kernel
theorem dX9_trip_0 : decode cX9_trip 0 = .ok (.aload_n 0, 1) := by decide +kernel
theorem dX9_trip_1 : decode cX9_trip 1 = .ok (.iload_n 1, 1) := by decide +kernel
theorem dX9_trip_2 : decode cX9_trip 2 = .ok (.invokevirtual 61, 3) := by decide +kernel
theorem dX9_trip_5 : decode cX9_trip 5 = .ok (.ifCond .ne 10, 3) := by decide +kernel
theorem dX9_trip_8 : decode cX9_trip 8 = .ok (.aload_n 0, 1) := by decide +kernel
theorem dX9_trip_9 : decode cX9_trip 9 = .ok (.ldc 56, 2) := by decide +kernel
theorem dX9_trip_11 : decode cX9_trip 11 = .ok (.invokevirtual 70, 3) := by decide +kernel
theorem dX9_trip_14 : decode cX9_trip 14 = .ok (.ireturn, 1) := by decide +kernel
theorem dX9_tripOfHome_0 : decode cX9_tripOfHome 0 = .ok (.aload_n 0, 1) := by decide +kernel
theorem dX9_tripOfHome_1 : decode cX9_tripOfHome 1 = .ok (.invokevirtual 171, 3) := by decide +kernel
theorem dX9_tripOfHome_4 : decode cX9_tripOfHome 4 = .ok (.istore_n 1, 1) := by decide +kernel
theorem dX9_tripOfHome_5 : decode cX9_tripOfHome 5 = .ok (.iload_n 1, 1) := by decide +kernel
theorem dX9_tripOfHome_6 : decode cX9_tripOfHome 6 = .ok (.ifCond .ge 8, 3) := by decide +kernel
theorem dX9_tripOfHome_9 : decode cX9_tripOfHome 9 = .ok (.ldc 104, 2) := by decide +kernel
theorem dX9_tripOfHome_11 : decode cX9_tripOfHome 11 = .ok (.goto 8, 3) := by decide +kernel
theorem dX9_tripOfHome_19 : decode cX9_tripOfHome 19 = .ok (.ireturn, 1) := by decide +kernel
theorem dX9_undo_0 : decode cX9_undo 0 = .ok (.aload_n 0, 1) := by decide +kernel
theorem dX9_undo_1 : decode cX9_undo 1 = .ok (.getfield 317, 3) := by decide +kernel
theorem dX9_undo_4 : decode cX9_undo 4 = .ok (.ifCond .ne 10, 3) := by decide +kernel
theorem dX9_undo_7 : decode cX9_undo 7 = .ok (.aload_n 0, 1) := by decide +kernel
theorem dX9_undo_8 : decode cX9_undo 8 = .ok (.ldc 96, 2) := by decide +kernel
theorem dX9_undo_10 : decode cX9_undo 10 = .ok (.invokevirtual 70, 3) := by decide +kernel
theorem dX9_undo_13 : decode cX9_undo 13 = .ok (.ireturn, 1) := by decide +kernel
theorem dX9_walk_0 : decode cX9_walk 0 = .ok (.aload_n 0, 1) := by decide +kernel
theorem dX9_walk_1 : decode cX9_walk 1 = .ok (.iload_n 1, 1) := by decide +kernel
theorem dX9_walk_2 : decode cX9_walk 2 = .ok (.iload_n 2, 1) := by decide +kernel
theorem dX9_walk_3 : decode cX9_walk 3 = .ok (.invokevirtual 80, 3) := by decide +kernel
theorem dX9_walk_6 : decode cX9_walk 6 = .ok (.ifCond .eq 23, 3) := by decide +kernel
theorem dX9_walk_29 : decode cX9_walk 29 = .ok (.aload_n 0, 1) := by decide +kernel
theorem dX9_walk_30 : decode cX9_walk 30 = .ok (.ldc 56, 2) := by decide +kernel
theorem dX9_walk_32 : decode cX9_walk 32 = .ok (.invokevirtual 70, 3) := by decide +kernel
theorem dX9_walk_35 : decode cX9_walk 35 = .ok (.ireturn, 1) := by decide +kernel
theorem dX9_way_0 : decode cX9_way 0 = .ok (.aload_n 0, 1) := by decide +kernel
theorem dX9_way_1 : decode cX9_way 1 = .ok (.iload_n 1, 1) := by decide +kernel
theorem dX9_way_2 : decode cX9_way 2 = .ok (.iload_n 2, 1) := by decide +kernel
theorem dX9_way_3 : decode cX9_way 3 = .ok (.invokevirtual 80, 3) := by decide +kernel
theorem dX9_way_6 : decode cX9_way 6 = .ok (.ifCond .eq 24, 3) := by decide +kernel
theorem dX9_way_30 : decode cX9_way 30 = .ok (.aload_n 0, 1) := by decide +kernel
theorem dX9_way_31 : decode cX9_way 31 = .ok (.ldc 56, 2) := by decide +kernel
theorem dX9_way_33 : decode cX9_way 33 = .ok (.invokevirtual 70, 3) := by decide +kernel
theorem dX9_way_36 : decode cX9_way 36 = .ok (.ireturn, 1) := by decide +kernel
theorem dX9_wayOf_0 : decode cX9_wayOf 0 = .ok (.aload_n 0, 1) := by decide +kernel
theorem dX9_wayOf_1 : decode cX9_wayOf 1 = .ok (.iload_n 1, 1) := by decide +kernel
theorem dX9_wayOf_2 : decode cX9_wayOf 2 = .ok (.iload_n 2, 1) := by decide +kernel
theorem dX9_wayOf_3 : decode cX9_wayOf 3 = .ok (.invokevirtual 80, 3) := by decide +kernel
theorem dX9_wayOf_6 : decode cX9_wayOf 6 = .ok (.ifCond .eq 15, 3) := by decide +kernel
theorem dX9_wayOf_21 : decode cX9_wayOf 21 = .ok (.aload_n 0, 1) := by decide +kernel
theorem dX9_wayOf_22 : decode cX9_wayOf 22 = .ok (.ldc 56, 2) := by decide +kernel
theorem dX9_wayOf_24 : decode cX9_wayOf 24 = .ok (.invokevirtual 70, 3) := by decide +kernel
theorem dX9_wayOf_27 : decode cX9_wayOf 27 = .ok (.ireturn, 1) := by decide +kernel
theorem dX9_wipe_0 : decode cX9_wipe 0 = .ok (.aload_n 0, 1) := by decide +kernel
theorem dX9_wipe_1 : decode cX9_wipe 1 = .ok (.getfield 240, 3) := by decide +kernel
theorem dX9_wipe_4 : decode cX9_wipe 4 = .ok (.istore_n 1, 1) := by decide +kernel
theorem dX9_wipe_5 : decode cX9_wipe 5 = .ok (.aload_n 0, 1) := by decide +kernel
theorem dX9_wipe_6 : decode cX9_wipe 6 = .ok (.iconst 0, 1) := by decide +kernel
theorem dX9_wipe_7 : decode cX9_wipe 7 = .ok (.putfield 240, 3) := by decide +kernel
theorem dX9_wipe_10 : decode cX9_wipe 10 = .ok (.iload_n 1, 1) := by decide +kernel
theorem dX9_wipe_11 : decode cX9_wipe 11 = .ok (.ireturn, 1) := by decide +kernel
theorem dX9_worst_0 : decode cX9_worst 0 = .ok (.iconst (-1), 1) := by decide +kernel
theorem dX9_worst_1 : decode cX9_worst 1 = .ok (.istore_n 1, 1) := by decide +kernel
theorem dX9_worst_2 : decode cX9_worst 2 = .ok (.iconst 0, 1) := by decide +kernel
theorem dX9_worst_3 : decode cX9_worst 3 = .ok (.istore_n 2, 1) := by decide +kernel
theorem dX9_worst_4 : decode cX9_worst 4 = .ok (.iload_n 2, 1) := by decide +kernel
theorem dX9_worst_5 : decode cX9_worst 5 = .ok (.aload_n 0, 1) := by decide +kernel
theorem dX9_worst_6 : decode cX9_worst 6 = .ok (.getfield 7, 3) := by decide +kernel
theorem dX9_worst_9 : decode cX9_worst 9 = .ok (.iconst 0, 1) := by decide +kernel
theorem dX9_worst_10 : decode cX9_worst 10 = .ok (.iaload, 1) := by decide +kernel
theorem dX9_worst_11 : decode cX9_worst 11 = .ok (.if_icmp .ge 89, 3) := by decide +kernel
theorem dX9_worst_100 : decode cX9_worst 100 = .ok (.iload_n 1, 1) := by decide +kernel
theorem dX9_worst_101 : decode cX9_worst 101 = .ok (.ifCond .ge 12, 3) := by decide +kernel
theorem dX9_worst_104 : decode cX9_worst 104 = .ok (.aload_n 0, 1) := by decide +kernel
theorem dX9_worst_105 : decode cX9_worst 105 = .ok (.ldc 96, 2) := by decide +kernel
theorem dX9_worst_107 : decode cX9_worst 107 = .ok (.invokevirtual 70, 3) := by decide +kernel
theorem dX9_worst_110 : decode cX9_worst 110 = .ok (.goto 4, 3) := by decide +kernel
theorem dX9_worst_114 : decode cX9_worst 114 = .ok (.ireturn, 1) := by decide +kernel
theorem dX9_write_0 : decode cX9_write 0 = .ok (.aload_n 0, 1) := by decide +kernel
theorem dX9_write_1 : decode cX9_write 1 = .ok (.iload_n 1, 1) := by decide +kernel
theorem dX9_write_2 : decode cX9_write 2 = .ok (.invokevirtual 310, 3) := by decide +kernel
theorem dX9_write_5 : decode cX9_write 5 = .ok (.istore 5, 2) := by decide +kernel
theorem dX9_write_7 : decode cX9_write 7 = .ok (.iload 5, 2) := by decide +kernel
theorem dX9_write_9 : decode cX9_write 9 = .ok (.ifCond .eq 11, 3) := by decide +kernel
theorem dX9_write_12 : decode cX9_write 12 = .ok (.aload_n 0, 1) := by decide +kernel
theorem dX9_write_13 : decode cX9_write 13 = .ok (.iload 5, 2) := by decide +kernel
theorem dX9_write_15 : decode cX9_write 15 = .ok (.invokevirtual 70, 3) := by decide +kernel
theorem dX9_write_18 : decode cX9_write 18 = .ok (.i2l, 1) := by decide +kernel
theorem dX9_write_19 : decode cX9_write 19 = .ok (.lreturn, 1) := by decide +kernel
theorem dX9_wrong_0 : decode cX9_wrong 0 = .ok (.iload_n 1, 1) := by decide +kernel
theorem dX9_wrong_1 : decode cX9_wrong 1 = .ok (.invokestatic 305, 3) := by decide +kernel
theorem dX9_wrong_4 : decode cX9_wrong 4 = .ok (.ifCond .ne 8, 3) := by decide +kernel
theorem dX9_wrong_7 : decode cX9_wrong 7 = .ok (.ldc 56, 2) := by decide +kernel
theorem dX9_wrong_9 : decode cX9_wrong 9 = .ok (.goto 19, 3) := by decide +kernel
theorem dX9_wrong_12 : decode cX9_wrong 12 = .ok (.aload_n 0, 1) := by decide +kernel
theorem dX9_wrong_13 : decode cX9_wrong 13 = .ok (.getfield 43, 3) := by decide +kernel
theorem dX9_wrong_16 : decode cX9_wrong 16 = .ok (.iload_n 1, 1) := by decide +kernel
theorem dX9_wrong_17 : decode cX9_wrong 17 = .ok (.iaload, 1) := by decide +kernel
theorem dX9_wrong_18 : decode cX9_wrong 18 = .ok (.ifCond .ne 9, 3) := by decide +kernel
theorem dX9_wrong_21 : decode cX9_wrong 21 = .ok (.ldc_w 309, 3) := by decide +kernel
theorem dX9_wrong_24 : decode cX9_wrong 24 = .ok (.goto 4, 3) := by decide +kernel
theorem dX9_wrong_28 : decode cX9_wrong 28 = .ok (.ireturn, 1) := by decide +kernel
