theorem d_L_law_195 : decode code 195 = .ok (.aload_n 2, 1) := by decide +kernel
theorem d_L_law_196 : decode code 196 = .ok (.aload_n 0, 1) := by decide +kernel
theorem d_L_law_197 : decode code 197 = .ok (.iload 4, 2) := by decide +kernel
theorem d_L_law_199 : decode code 199 = .ok (.iconst 1, 1) := by decide +kernel
theorem d_L_law_200 : decode code 200 = .ok (.iadd, 1) := by decide +kernel
theorem d_L_law_201 : decode code 201 = .ok (.iaload, 1) := by decide +kernel
theorem d_L_law_202 : decode code 202 = .ok (.aload_n 0, 1) := by decide +kernel
theorem d_L_law_203 : decode code 203 = .ok (.iload 4, 2) := by decide +kernel
theorem d_L_law_205 : decode code 205 = .ok (.iconst 2, 1) := by decide +kernel
theorem d_L_law_206 : decode code 206 = .ok (.iadd, 1) := by decide +kernel
theorem d_L_law_207 : decode code 207 = .ok (.iaload, 1) := by decide +kernel
theorem d_L_law_208 : decode code 208 = .ok (.aload_n 0, 1) := by decide +kernel
theorem d_L_law_209 : decode code 209 = .ok (.iload 4, 2) := by decide +kernel
theorem d_L_law_211 : decode code 211 = .ok (.iconst 3, 1) := by decide +kernel
theorem d_L_law_212 : decode code 212 = .ok (.iadd, 1) := by decide +kernel
theorem d_L_law_213 : decode code 213 = .ok (.iaload, 1) := by decide +kernel
theorem d_L_law_214 : decode code 214 = .ok (.aload_n 0, 1) := by decide +kernel
theorem d_L_law_215 : decode code 215 = .ok (.iload 4, 2) := by decide +kernel
theorem d_L_law_217 : decode code 217 = .ok (.iconst 4, 1) := by decide +kernel
theorem d_L_law_218 : decode code 218 = .ok (.iadd, 1) := by decide +kernel
theorem d_L_law_219 : decode code 219 = .ok (.iaload, 1) := by decide +kernel
theorem d_L_law_220 : decode code 220 = .ok (.invokevirtual 78, 3) := by decide +kernel
theorem d_L_law_223 : decode code 223 = .ok (.istore 6, 2) := by decide +kernel
theorem d_L_law_225 : decode code 225 = .ok (.goto 519, 3) := by decide +kernel
theorem d_L_law_228 : decode code 228 = .ok (.aload_n 1, 1) := by decide +kernel
theorem d_L_law_229 : decode code 229 = .ok (.aload_n 0, 1) := by decide +kernel
theorem d_L_law_230 : decode code 230 = .ok (.iload 4, 2) := by decide +kernel
theorem d_L_law_232 : decode code 232 = .ok (.iconst 1, 1) := by decide +kernel
theorem d_L_law_233 : decode code 233 = .ok (.iadd, 1) := by decide +kernel
theorem d_L_law_234 : decode code 234 = .ok (.iaload, 1) := by decide +kernel
theorem d_L_law_235 : decode code 235 = .ok (.aload_n 0, 1) := by decide +kernel
theorem d_L_law_236 : decode code 236 = .ok (.iload 4, 2) := by decide +kernel
theorem d_L_law_238 : decode code 238 = .ok (.iconst 2, 1) := by decide +kernel
theorem d_L_law_239 : decode code 239 = .ok (.iadd, 1) := by decide +kernel
theorem d_L_law_240 : decode code 240 = .ok (.iaload, 1) := by decide +kernel
theorem d_L_law_241 : decode code 241 = .ok (.aload_n 0, 1) := by decide +kernel
theorem d_L_law_242 : decode code 242 = .ok (.iload 4, 2) := by decide +kernel
theorem d_L_law_244 : decode code 244 = .ok (.iconst 3, 1) := by decide +kernel
theorem d_L_law_245 : decode code 245 = .ok (.iadd, 1) := by decide +kernel
theorem d_L_law_246 : decode code 246 = .ok (.iaload, 1) := by decide +kernel
theorem d_L_law_247 : decode code 247 = .ok (.aload_n 0, 1) := by decide +kernel
theorem d_L_law_248 : decode code 248 = .ok (.iload 4, 2) := by decide +kernel
theorem d_L_law_250 : decode code 250 = .ok (.iconst 4, 1) := by decide +kernel
theorem d_L_law_251 : decode code 251 = .ok (.iadd, 1) := by decide +kernel
theorem d_L_law_252 : decode code 252 = .ok (.iaload, 1) := by decide +kernel
theorem d_L_law_253 : decode code 253 = .ok (.aload_n 0, 1) := by decide +kernel
theorem d_L_law_254 : decode code 254 = .ok (.iload 4, 2) := by decide +kernel
theorem d_L_law_256 : decode code 256 = .ok (.iconst 5, 1) := by decide +kernel
theorem d_L_law_257 : decode code 257 = .ok (.iadd, 1) := by decide +kernel
theorem d_L_law_258 : decode code 258 = .ok (.iaload, 1) := by decide +kernel
theorem d_L_law_259 : decode code 259 = .ok (.invokestatic 79, 3) := by decide +kernel
theorem d_L_law_262 : decode code 262 = .ok (.istore 5, 2) := by decide +kernel
theorem d_L_law_264 : decode code 264 = .ok (.aload_n 2, 1) := by decide +kernel
theorem d_L_law_265 : decode code 265 = .ok (.aload_n 0, 1) := by decide +kernel
theorem d_L_law_266 : decode code 266 = .ok (.iload 4, 2) := by decide +kernel
theorem d_L_law_268 : decode code 268 = .ok (.iconst 1, 1) := by decide +kernel
theorem d_L_law_269 : decode code 269 = .ok (.iadd, 1) := by decide +kernel
theorem d_L_law_270 : decode code 270 = .ok (.iaload, 1) := by decide +kernel
theorem d_L_law_271 : decode code 271 = .ok (.aload_n 0, 1) := by decide +kernel
theorem d_L_law_272 : decode code 272 = .ok (.iload 4, 2) := by decide +kernel
theorem d_L_law_274 : decode code 274 = .ok (.iconst 2, 1) := by decide +kernel
theorem d_L_law_275 : decode code 275 = .ok (.iadd, 1) := by decide +kernel
theorem d_L_law_276 : decode code 276 = .ok (.iaload, 1) := by decide +kernel
theorem d_L_law_277 : decode code 277 = .ok (.aload_n 0, 1) := by decide +kernel
theorem d_L_law_278 : decode code 278 = .ok (.iload 4, 2) := by decide +kernel
theorem d_L_law_280 : decode code 280 = .ok (.iconst 3, 1) := by decide +kernel
theorem d_L_law_281 : decode code 281 = .ok (.iadd, 1) := by decide +kernel
theorem d_L_law_282 : decode code 282 = .ok (.iaload, 1) := by decide +kernel
theorem d_L_law_283 : decode code 283 = .ok (.aload_n 0, 1) := by decide +kernel
theorem d_L_law_284 : decode code 284 = .ok (.iload 4, 2) := by decide +kernel
theorem d_L_law_286 : decode code 286 = .ok (.iconst 4, 1) := by decide +kernel
theorem d_L_law_287 : decode code 287 = .ok (.iadd, 1) := by decide +kernel
theorem d_L_law_288 : decode code 288 = .ok (.iaload, 1) := by decide +kernel
theorem d_L_law_289 : decode code 289 = .ok (.aload_n 0, 1) := by decide +kernel
theorem d_L_law_290 : decode code 290 = .ok (.iload 4, 2) := by decide +kernel
theorem d_L_law_292 : decode code 292 = .ok (.iconst 5, 1) := by decide +kernel
theorem d_L_law_293 : decode code 293 = .ok (.iadd, 1) := by decide +kernel
theorem d_L_law_294 : decode code 294 = .ok (.iaload, 1) := by decide +kernel
theorem d_L_law_295 : decode code 295 = .ok (.invokevirtual 82, 3) := by decide +kernel
theorem d_L_law_298 : decode code 298 = .ok (.goto 446, 3) := by decide +kernel
theorem d_L_law_301 : decode code 301 = .ok (.aload_n 1, 1) := by decide +kernel
theorem d_L_law_302 : decode code 302 = .ok (.aload_n 3, 1) := by decide +kernel
theorem d_L_law_303 : decode code 303 = .ok (.invokestatic 83, 3) := by decide +kernel
theorem d_L_law_306 : decode code 306 = .ok (.istore 5, 2) := by decide +kernel
theorem d_L_law_308 : decode code 308 = .ok (.aload_n 2, 1) := by decide +kernel
theorem d_L_law_309 : decode code 309 = .ok (.invokevirtual 86, 3) := by decide +kernel
theorem d_L_law_312 : decode code 312 = .ok (.istore 6, 2) := by decide +kernel
theorem d_L_law_314 : decode code 314 = .ok (.goto 430, 3) := by decide +kernel
theorem d_L_law_317 : decode code 317 = .ok (.aload_n 1, 1) := by decide +kernel
theorem d_L_law_318 : decode code 318 = .ok (.aload_n 0, 1) := by decide +kernel
theorem d_L_law_319 : decode code 319 = .ok (.iload 4, 2) := by decide +kernel
theorem d_L_law_321 : decode code 321 = .ok (.iconst 1, 1) := by decide +kernel
theorem d_L_law_322 : decode code 322 = .ok (.iadd, 1) := by decide +kernel
theorem d_L_law_323 : decode code 323 = .ok (.iaload, 1) := by decide +kernel
theorem d_L_law_324 : decode code 324 = .ok (.invokevirtual 87, 3) := by decide +kernel
theorem d_L_law_327 : decode code 327 = .ok (.pop, 1) := by decide +kernel
theorem d_L_law_328 : decode code 328 = .ok (.aload_n 2, 1) := by decide +kernel
theorem d_L_law_329 : decode code 329 = .ok (.aload_n 0, 1) := by decide +kernel
theorem d_L_law_330 : decode code 330 = .ok (.iload 4, 2) := by decide +kernel
theorem d_L_law_332 : decode code 332 = .ok (.iconst 1, 1) := by decide +kernel
theorem d_L_law_333 : decode code 333 = .ok (.iadd, 1) := by decide +kernel
theorem d_L_law_334 : decode code 334 = .ok (.iaload, 1) := by decide +kernel
theorem d_L_law_335 : decode code 335 = .ok (.invokevirtual 90, 3) := by decide +kernel
theorem d_L_law_338 : decode code 338 = .ok (.pop, 1) := by decide +kernel
theorem d_L_law_339 : decode code 339 = .ok (.goto 405, 3) := by decide +kernel
theorem d_L_law_342 : decode code 342 = .ok (.aload_n 1, 1) := by decide +kernel
theorem d_L_law_343 : decode code 343 = .ok (.aload_n 0, 1) := by decide +kernel
theorem d_L_law_344 : decode code 344 = .ok (.iload 4, 2) := by decide +kernel
theorem d_L_law_346 : decode code 346 = .ok (.iconst 1, 1) := by decide +kernel
theorem d_L_law_347 : decode code 347 = .ok (.iadd, 1) := by decide +kernel
theorem d_L_law_348 : decode code 348 = .ok (.iaload, 1) := by decide +kernel
theorem d_L_law_349 : decode code 349 = .ok (.aload_n 3, 1) := by decide +kernel
theorem d_L_law_350 : decode code 350 = .ok (.invokestatic 91, 3) := by decide +kernel
theorem d_L_law_353 : decode code 353 = .ok (.istore 5, 2) := by decide +kernel
theorem d_L_law_355 : decode code 355 = .ok (.aload_n 2, 1) := by decide +kernel
theorem d_L_law_356 : decode code 356 = .ok (.aload_n 0, 1) := by decide +kernel
theorem d_L_law_357 : decode code 357 = .ok (.iload 4, 2) := by decide +kernel
theorem d_L_law_359 : decode code 359 = .ok (.iconst 1, 1) := by decide +kernel
theorem d_L_law_360 : decode code 360 = .ok (.iadd, 1) := by decide +kernel
theorem d_L_law_361 : decode code 361 = .ok (.iaload, 1) := by decide +kernel
theorem d_L_law_362 : decode code 362 = .ok (.invokevirtual 94, 3) := by decide +kernel
theorem d_L_law_365 : decode code 365 = .ok (.istore 6, 2) := by decide +kernel
theorem d_L_law_367 : decode code 367 = .ok (.goto 377, 3) := by decide +kernel
theorem d_L_law_370 : decode code 370 = .ok (.aload_n 1, 1) := by decide +kernel
theorem d_L_law_371 : decode code 371 = .ok (.aload_n 0, 1) := by decide +kernel
theorem d_L_law_372 : decode code 372 = .ok (.iload 4, 2) := by decide +kernel
theorem d_L_law_374 : decode code 374 = .ok (.iconst 1, 1) := by decide +kernel
theorem d_L_law_375 : decode code 375 = .ok (.iadd, 1) := by decide +kernel
theorem d_L_law_376 : decode code 376 = .ok (.iaload, 1) := by decide +kernel
theorem d_L_law_377 : decode code 377 = .ok (.aload_n 0, 1) := by decide +kernel
theorem d_L_law_378 : decode code 378 = .ok (.iload 4, 2) := by decide +kernel
theorem d_L_law_380 : decode code 380 = .ok (.iconst 2, 1) := by decide +kernel
theorem d_L_law_381 : decode code 381 = .ok (.iadd, 1) := by decide +kernel
theorem d_L_law_382 : decode code 382 = .ok (.iaload, 1) := by decide +kernel
theorem d_L_law_383 : decode code 383 = .ok (.aload_n 3, 1) := by decide +kernel
theorem d_L_law_384 : decode code 384 = .ok (.invokestatic 95, 3) := by decide +kernel
theorem d_L_law_387 : decode code 387 = .ok (.istore 5, 2) := by decide +kernel
theorem d_L_law_389 : decode code 389 = .ok (.aload_n 2, 1) := by decide +kernel
theorem d_L_law_390 : decode code 390 = .ok (.aload_n 0, 1) := by decide +kernel
theorem d_L_law_391 : decode code 391 = .ok (.iload 4, 2) := by decide +kernel
theorem d_L_law_393 : decode code 393 = .ok (.iconst 1, 1) := by decide +kernel
theorem d_L_law_394 : decode code 394 = .ok (.iadd, 1) := by decide +kernel
theorem d_L_law_395 : decode code 395 = .ok (.iaload, 1) := by decide +kernel
theorem d_L_law_396 : decode code 396 = .ok (.aload_n 0, 1) := by decide +kernel
theorem d_L_law_397 : decode code 397 = .ok (.iload 4, 2) := by decide +kernel
theorem d_L_law_399 : decode code 399 = .ok (.iconst 2, 1) := by decide +kernel
theorem d_L_law_400 : decode code 400 = .ok (.iadd, 1) := by decide +kernel
theorem d_L_law_401 : decode code 401 = .ok (.iaload, 1) := by decide +kernel
theorem d_L_law_402 : decode code 402 = .ok (.invokevirtual 97, 3) := by decide +kernel
theorem d_L_law_405 : decode code 405 = .ok (.istore 6, 2) := by decide +kernel
theorem d_L_law_407 : decode code 407 = .ok (.goto 337, 3) := by decide +kernel
theorem d_L_law_410 : decode code 410 = .ok (.aload_n 1, 1) := by decide +kernel
theorem d_L_law_411 : decode code 411 = .ok (.aload_n 0, 1) := by decide +kernel
theorem d_L_law_412 : decode code 412 = .ok (.iload 4, 2) := by decide +kernel
theorem d_L_law_414 : decode code 414 = .ok (.iconst 1, 1) := by decide +kernel
theorem d_L_law_415 : decode code 415 = .ok (.iadd, 1) := by decide +kernel
theorem d_L_law_416 : decode code 416 = .ok (.iaload, 1) := by decide +kernel
theorem d_L_law_417 : decode code 417 = .ok (.aload_n 0, 1) := by decide +kernel
theorem d_L_law_418 : decode code 418 = .ok (.iload 4, 2) := by decide +kernel
theorem d_L_law_420 : decode code 420 = .ok (.iconst 2, 1) := by decide +kernel
theorem d_L_law_421 : decode code 421 = .ok (.iadd, 1) := by decide +kernel
theorem d_L_law_422 : decode code 422 = .ok (.iaload, 1) := by decide +kernel
theorem d_L_law_423 : decode code 423 = .ok (.aload_n 3, 1) := by decide +kernel
theorem d_L_law_424 : decode code 424 = .ok (.invokestatic 98, 3) := by decide +kernel
theorem d_L_law_427 : decode code 427 = .ok (.istore 5, 2) := by decide +kernel
theorem d_L_law_429 : decode code 429 = .ok (.aload_n 2, 1) := by decide +kernel
theorem d_L_law_430 : decode code 430 = .ok (.aload_n 0, 1) := by decide +kernel
theorem d_L_law_431 : decode code 431 = .ok (.iload 4, 2) := by decide +kernel
theorem d_L_law_433 : decode code 433 = .ok (.iconst 1, 1) := by decide +kernel
theorem d_L_law_434 : decode code 434 = .ok (.iadd, 1) := by decide +kernel
theorem d_L_law_435 : decode code 435 = .ok (.iaload, 1) := by decide +kernel
theorem d_L_law_436 : decode code 436 = .ok (.aload_n 0, 1) := by decide +kernel
theorem d_L_law_437 : decode code 437 = .ok (.iload 4, 2) := by decide +kernel
theorem d_L_law_439 : decode code 439 = .ok (.iconst 2, 1) := by decide +kernel
theorem d_L_law_440 : decode code 440 = .ok (.iadd, 1) := by decide +kernel
theorem d_L_law_441 : decode code 441 = .ok (.iaload, 1) := by decide +kernel
theorem d_L_law_442 : decode code 442 = .ok (.invokevirtual 100, 3) := by decide +kernel
theorem d_L_law_445 : decode code 445 = .ok (.istore 6, 2) := by decide +kernel
theorem d_L_law_447 : decode code 447 = .ok (.goto 297, 3) := by decide +kernel
theorem d_L_law_450 : decode code 450 = .ok (.aload_n 1, 1) := by decide +kernel
theorem d_L_law_451 : decode code 451 = .ok (.aload_n 0, 1) := by decide +kernel
theorem d_L_law_452 : decode code 452 = .ok (.iload 4, 2) := by decide +kernel
theorem d_L_law_454 : decode code 454 = .ok (.iconst 1, 1) := by decide +kernel
theorem d_L_law_455 : decode code 455 = .ok (.iadd, 1) := by decide +kernel
theorem d_L_law_456 : decode code 456 = .ok (.iaload, 1) := by decide +kernel
theorem d_L_law_457 : decode code 457 = .ok (.aload_n 0, 1) := by decide +kernel
theorem d_L_law_458 : decode code 458 = .ok (.iload 4, 2) := by decide +kernel
theorem d_L_law_460 : decode code 460 = .ok (.iconst 2, 1) := by decide +kernel
theorem d_L_law_461 : decode code 461 = .ok (.iadd, 1) := by decide +kernel
theorem d_L_law_462 : decode code 462 = .ok (.iaload, 1) := by decide +kernel
theorem d_L_law_463 : decode code 463 = .ok (.aload_n 0, 1) := by decide +kernel
theorem d_L_law_464 : decode code 464 = .ok (.iload 4, 2) := by decide +kernel
theorem d_L_law_466 : decode code 466 = .ok (.iconst 3, 1) := by decide +kernel
theorem d_L_law_467 : decode code 467 = .ok (.iadd, 1) := by decide +kernel
theorem d_L_law_468 : decode code 468 = .ok (.iaload, 1) := by decide +kernel
theorem d_L_law_469 : decode code 469 = .ok (.aload_n 0, 1) := by decide +kernel
theorem d_L_law_470 : decode code 470 = .ok (.iload 4, 2) := by decide +kernel
theorem d_L_law_472 : decode code 472 = .ok (.iconst 4, 1) := by decide +kernel
theorem d_L_law_473 : decode code 473 = .ok (.iadd, 1) := by decide +kernel
theorem d_L_law_474 : decode code 474 = .ok (.iaload, 1) := by decide +kernel
theorem d_L_law_475 : decode code 475 = .ok (.aload_n 0, 1) := by decide +kernel
theorem d_L_law_476 : decode code 476 = .ok (.iload 4, 2) := by decide +kernel
theorem d_L_law_478 : decode code 478 = .ok (.iconst 5, 1) := by decide +kernel
theorem d_L_law_479 : decode code 479 = .ok (.iadd, 1) := by decide +kernel
theorem d_L_law_480 : decode code 480 = .ok (.iaload, 1) := by decide +kernel
theorem d_L_law_481 : decode code 481 = .ok (.aload_n 3, 1) := by decide +kernel
theorem d_L_law_482 : decode code 482 = .ok (.invokestatic 101, 3) := by decide +kernel
theorem d_L_law_485 : decode code 485 = .ok (.istore 5, 2) := by decide +kernel
theorem d_L_law_487 : decode code 487 = .ok (.aload_n 2, 1) := by decide +kernel
theorem d_L_law_488 : decode code 488 = .ok (.aload_n 0, 1) := by decide +kernel
theorem d_L_law_489 : decode code 489 = .ok (.iload 4, 2) := by decide +kernel
theorem d_L_law_491 : decode code 491 = .ok (.iconst 1, 1) := by decide +kernel
theorem d_L_law_492 : decode code 492 = .ok (.iadd, 1) := by decide +kernel
theorem d_L_law_493 : decode code 493 = .ok (.iaload, 1) := by decide +kernel
theorem d_L_law_494 : decode code 494 = .ok (.aload_n 0, 1) := by decide +kernel
theorem d_L_law_495 : decode code 495 = .ok (.iload 4, 2) := by decide +kernel
theorem d_L_law_497 : decode code 497 = .ok (.iconst 2, 1) := by decide +kernel
theorem d_L_law_498 : decode code 498 = .ok (.iadd, 1) := by decide +kernel
theorem d_L_law_499 : decode code 499 = .ok (.iaload, 1) := by decide +kernel
theorem d_L_law_500 : decode code 500 = .ok (.aload_n 0, 1) := by decide +kernel
theorem d_L_law_501 : decode code 501 = .ok (.iload 4, 2) := by decide +kernel
theorem d_L_law_503 : decode code 503 = .ok (.iconst 3, 1) := by decide +kernel
theorem d_L_law_504 : decode code 504 = .ok (.iadd, 1) := by decide +kernel
theorem d_L_law_505 : decode code 505 = .ok (.iaload, 1) := by decide +kernel
theorem d_L_law_506 : decode code 506 = .ok (.aload_n 0, 1) := by decide +kernel
theorem d_L_law_507 : decode code 507 = .ok (.iload 4, 2) := by decide +kernel
theorem d_L_law_509 : decode code 509 = .ok (.iconst 4, 1) := by decide +kernel
theorem d_L_law_510 : decode code 510 = .ok (.iadd, 1) := by decide +kernel
theorem d_L_law_511 : decode code 511 = .ok (.iaload, 1) := by decide +kernel
theorem d_L_law_512 : decode code 512 = .ok (.aload_n 0, 1) := by decide +kernel
theorem d_L_law_513 : decode code 513 = .ok (.iload 4, 2) := by decide +kernel
theorem d_L_law_515 : decode code 515 = .ok (.iconst 5, 1) := by decide +kernel
theorem d_L_law_516 : decode code 516 = .ok (.iadd, 1) := by decide +kernel
theorem d_L_law_517 : decode code 517 = .ok (.iaload, 1) := by decide +kernel
theorem d_L_law_518 : decode code 518 = .ok (.invokevirtual 104, 3) := by decide +kernel
theorem d_L_law_521 : decode code 521 = .ok (.istore 6, 2) := by decide +kernel
theorem d_L_law_523 : decode code 523 = .ok (.goto 221, 3) := by decide +kernel
theorem d_L_law_526 : decode code 526 = .ok (.aload_n 1, 1) := by decide +kernel
theorem d_L_law_527 : decode code 527 = .ok (.invokevirtual 105, 3) := by decide +kernel
theorem d_L_law_530 : decode code 530 = .ok (.aload_n 2, 1) := by decide +kernel
theorem d_L_law_531 : decode code 531 = .ok (.invokevirtual 108, 3) := by decide +kernel
theorem d_L_law_534 : decode code 534 = .ok (.goto 210, 3) := by decide +kernel
theorem d_L_law_537 : decode code 537 = .ok (.aload_n 1, 1) := by decide +kernel
theorem d_L_law_538 : decode code 538 = .ok (.aload_n 0, 1) := by decide +kernel
theorem d_L_law_539 : decode code 539 = .ok (.iload 4, 2) := by decide +kernel
theorem d_L_law_541 : decode code 541 = .ok (.iconst 1, 1) := by decide +kernel
theorem d_L_law_542 : decode code 542 = .ok (.iadd, 1) := by decide +kernel
theorem d_L_law_543 : decode code 543 = .ok (.iaload, 1) := by decide +kernel
theorem d_L_law_544 : decode code 544 = .ok (.aload_n 0, 1) := by decide +kernel
theorem d_L_law_545 : decode code 545 = .ok (.iload 4, 2) := by decide +kernel
theorem d_L_law_547 : decode code 547 = .ok (.iconst 2, 1) := by decide +kernel
theorem d_L_law_548 : decode code 548 = .ok (.iadd, 1) := by decide +kernel
theorem d_L_law_549 : decode code 549 = .ok (.iaload, 1) := by decide +kernel
theorem d_L_law_550 : decode code 550 = .ok (.invokestatic 109, 3) := by decide +kernel
theorem d_L_law_553 : decode code 553 = .ok (.istore 5, 2) := by decide +kernel
theorem d_L_law_555 : decode code 555 = .ok (.aload_n 2, 1) := by decide +kernel
theorem d_L_law_556 : decode code 556 = .ok (.aload_n 0, 1) := by decide +kernel
theorem d_L_law_557 : decode code 557 = .ok (.iload 4, 2) := by decide +kernel
theorem d_L_law_559 : decode code 559 = .ok (.iconst 1, 1) := by decide +kernel
theorem d_L_law_560 : decode code 560 = .ok (.iadd, 1) := by decide +kernel
theorem d_L_law_561 : decode code 561 = .ok (.iaload, 1) := by decide +kernel
theorem d_L_law_562 : decode code 562 = .ok (.aload_n 0, 1) := by decide +kernel
theorem d_L_law_563 : decode code 563 = .ok (.iload 4, 2) := by decide +kernel
theorem d_L_law_565 : decode code 565 = .ok (.iconst 2, 1) := by decide +kernel
theorem d_L_law_566 : decode code 566 = .ok (.iadd, 1) := by decide +kernel
theorem d_L_law_567 : decode code 567 = .ok (.iaload, 1) := by decide +kernel
theorem d_L_law_568 : decode code 568 = .ok (.invokevirtual 112, 3) := by decide +kernel
theorem d_L_law_571 : decode code 571 = .ok (.aload_n 2, 1) := by decide +kernel
theorem d_L_law_572 : decode code 572 = .ok (.invokevirtual 113, 3) := by decide +kernel
theorem d_L_law_575 : decode code 575 = .ok (.iload 5, 2) := by decide +kernel
theorem d_L_law_577 : decode code 577 = .ok (.if_icmp .eq 5, 3) := by decide +kernel
theorem d_L_law_582 : decode code 582 = .ok (.goto 162, 3) := by decide +kernel
theorem d_L_law_585 : decode code 585 = .ok (.aload_n 1, 1) := by decide +kernel
theorem d_L_law_586 : decode code 586 = .ok (.aload_n 0, 1) := by decide +kernel
theorem d_L_law_587 : decode code 587 = .ok (.iload 4, 2) := by decide +kernel
theorem d_L_law_589 : decode code 589 = .ok (.iconst 1, 1) := by decide +kernel
theorem d_L_law_590 : decode code 590 = .ok (.iadd, 1) := by decide +kernel
theorem d_L_law_591 : decode code 591 = .ok (.iaload, 1) := by decide +kernel
theorem d_L_law_592 : decode code 592 = .ok (.invokestatic 116, 3) := by decide +kernel
theorem d_L_law_595 : decode code 595 = .ok (.istore 5, 2) := by decide +kernel
theorem d_L_law_597 : decode code 597 = .ok (.aload_n 2, 1) := by decide +kernel
theorem d_L_law_598 : decode code 598 = .ok (.aload_n 0, 1) := by decide +kernel
theorem d_L_law_599 : decode code 599 = .ok (.iload 4, 2) := by decide +kernel
theorem d_L_law_601 : decode code 601 = .ok (.iconst 1, 1) := by decide +kernel
theorem d_L_law_602 : decode code 602 = .ok (.iadd, 1) := by decide +kernel
theorem d_L_law_603 : decode code 603 = .ok (.iaload, 1) := by decide +kernel
theorem d_L_law_604 : decode code 604 = .ok (.invokevirtual 119, 3) := by decide +kernel
theorem d_L_law_607 : decode code 607 = .ok (.goto 137, 3) := by decide +kernel
theorem d_L_law_610 : decode code 610 = .ok (.aload_n 1, 1) := by decide +kernel
theorem d_L_law_611 : decode code 611 = .ok (.aload_n 0, 1) := by decide +kernel
theorem d_L_law_612 : decode code 612 = .ok (.iload 4, 2) := by decide +kernel
theorem d_L_law_614 : decode code 614 = .ok (.iconst 1, 1) := by decide +kernel
theorem d_L_law_615 : decode code 615 = .ok (.iadd, 1) := by decide +kernel
theorem d_L_law_616 : decode code 616 = .ok (.iaload, 1) := by decide +kernel
theorem d_L_law_617 : decode code 617 = .ok (.aload_n 3, 1) := by decide +kernel
theorem d_L_law_618 : decode code 618 = .ok (.invokestatic 120, 3) := by decide +kernel
theorem d_L_law_621 : decode code 621 = .ok (.istore 5, 2) := by decide +kernel
theorem d_L_law_623 : decode code 623 = .ok (.aload_n 2, 1) := by decide +kernel
theorem d_L_law_624 : decode code 624 = .ok (.aload_n 0, 1) := by decide +kernel
theorem d_L_law_625 : decode code 625 = .ok (.iload 4, 2) := by decide +kernel
theorem d_L_law_627 : decode code 627 = .ok (.iconst 1, 1) := by decide +kernel
theorem d_L_law_628 : decode code 628 = .ok (.iadd, 1) := by decide +kernel
theorem d_L_law_629 : decode code 629 = .ok (.iaload, 1) := by decide +kernel
theorem d_L_law_630 : decode code 630 = .ok (.invokevirtual 122, 3) := by decide +kernel
theorem d_L_law_633 : decode code 633 = .ok (.istore 6, 2) := by decide +kernel
theorem d_L_law_635 : decode code 635 = .ok (.goto 109, 3) := by decide +kernel
theorem d_L_law_638 : decode code 638 = .ok (.aload_n 1, 1) := by decide +kernel
theorem d_L_law_639 : decode code 639 = .ok (.invokevirtual 123, 3) := by decide +kernel
theorem d_L_law_642 : decode code 642 = .ok (.pop, 1) := by decide +kernel
theorem d_L_law_643 : decode code 643 = .ok (.aload_n 2, 1) := by decide +kernel
theorem d_L_law_644 : decode code 644 = .ok (.invokevirtual 126, 3) := by decide +kernel
theorem d_L_law_647 : decode code 647 = .ok (.pop, 1) := by decide +kernel
theorem d_L_law_648 : decode code 648 = .ok (.goto 96, 3) := by decide +kernel
theorem d_L_law_651 : decode code 651 = .ok (.aload_n 1, 1) := by decide +kernel
theorem d_L_law_652 : decode code 652 = .ok (.invokevirtual 127, 3) := by decide +kernel
theorem d_L_law_655 : decode code 655 = .ok (.pop, 1) := by decide +kernel
theorem d_L_law_656 : decode code 656 = .ok (.aload_n 2, 1) := by decide +kernel
theorem d_L_law_657 : decode code 657 = .ok (.invokevirtual 130, 3) := by decide +kernel
theorem d_L_law_660 : decode code 660 = .ok (.pop, 1) := by decide +kernel
theorem d_L_law_661 : decode code 661 = .ok (.goto 83, 3) := by decide +kernel
theorem d_L_law_664 : decode code 664 = .ok (.aload_n 1, 1) := by decide +kernel
theorem d_L_law_665 : decode code 665 = .ok (.aload_n 0, 1) := by decide +kernel
theorem d_L_law_666 : decode code 666 = .ok (.iload 4, 2) := by decide +kernel
theorem d_L_law_668 : decode code 668 = .ok (.iconst 1, 1) := by decide +kernel
theorem d_L_law_669 : decode code 669 = .ok (.iadd, 1) := by decide +kernel
theorem d_L_law_670 : decode code 670 = .ok (.iaload, 1) := by decide +kernel
theorem d_L_law_671 : decode code 671 = .ok (.aload_n 0, 1) := by decide +kernel
theorem d_L_law_672 : decode code 672 = .ok (.iload 4, 2) := by decide +kernel
theorem d_L_law_674 : decode code 674 = .ok (.iconst 2, 1) := by decide +kernel
theorem d_L_law_675 : decode code 675 = .ok (.iadd, 1) := by decide +kernel
theorem d_L_law_676 : decode code 676 = .ok (.iaload, 1) := by decide +kernel
theorem d_L_law_677 : decode code 677 = .ok (.aload_n 3, 1) := by decide +kernel
theorem d_L_law_678 : decode code 678 = .ok (.invokestatic 131, 3) := by decide +kernel
theorem d_L_law_681 : decode code 681 = .ok (.istore 5, 2) := by decide +kernel
theorem d_L_law_683 : decode code 683 = .ok (.aload_n 2, 1) := by decide +kernel
theorem d_L_law_684 : decode code 684 = .ok (.aload_n 0, 1) := by decide +kernel
theorem d_L_law_685 : decode code 685 = .ok (.iload 4, 2) := by decide +kernel
theorem d_L_law_687 : decode code 687 = .ok (.iconst 1, 1) := by decide +kernel
theorem d_L_law_688 : decode code 688 = .ok (.iadd, 1) := by decide +kernel
theorem d_L_law_689 : decode code 689 = .ok (.iaload, 1) := by decide +kernel
theorem d_L_law_690 : decode code 690 = .ok (.aload_n 0, 1) := by decide +kernel
theorem d_L_law_691 : decode code 691 = .ok (.iload 4, 2) := by decide +kernel
theorem d_L_law_693 : decode code 693 = .ok (.iconst 2, 1) := by decide +kernel
theorem d_L_law_694 : decode code 694 = .ok (.iadd, 1) := by decide +kernel
theorem d_L_law_695 : decode code 695 = .ok (.iaload, 1) := by decide +kernel
theorem d_L_law_696 : decode code 696 = .ok (.invokevirtual 133, 3) := by decide +kernel
theorem d_L_law_699 : decode code 699 = .ok (.istore 6, 2) := by decide +kernel
theorem d_L_law_701 : decode code 701 = .ok (.goto 43, 3) := by decide +kernel
theorem d_L_law_704 : decode code 704 = .ok (.aload_n 1, 1) := by decide +kernel
theorem d_L_law_705 : decode code 705 = .ok (.aload_n 0, 1) := by decide +kernel
theorem d_L_law_706 : decode code 706 = .ok (.iload 4, 2) := by decide +kernel
theorem d_L_law_708 : decode code 708 = .ok (.iconst 1, 1) := by decide +kernel
theorem d_L_law_709 : decode code 709 = .ok (.iadd, 1) := by decide +kernel
theorem d_L_law_710 : decode code 710 = .ok (.iaload, 1) := by decide +kernel
theorem d_L_law_711 : decode code 711 = .ok (.aload_n 0, 1) := by decide +kernel
theorem d_L_law_712 : decode code 712 = .ok (.iload 4, 2) := by decide +kernel
theorem d_L_law_714 : decode code 714 = .ok (.iconst 2, 1) := by decide +kernel
theorem d_L_law_715 : decode code 715 = .ok (.iadd, 1) := by decide +kernel
theorem d_L_law_716 : decode code 716 = .ok (.iaload, 1) := by decide +kernel
theorem d_L_law_717 : decode code 717 = .ok (.aload_n 3, 1) := by decide +kernel
theorem d_L_law_718 : decode code 718 = .ok (.invokestatic 134, 3) := by decide +kernel
theorem d_L_law_721 : decode code 721 = .ok (.istore 5, 2) := by decide +kernel
theorem d_L_law_723 : decode code 723 = .ok (.aload_n 2, 1) := by decide +kernel
theorem d_L_law_724 : decode code 724 = .ok (.aload_n 0, 1) := by decide +kernel
theorem d_L_law_725 : decode code 725 = .ok (.iload 4, 2) := by decide +kernel
theorem d_L_law_727 : decode code 727 = .ok (.iconst 1, 1) := by decide +kernel
theorem d_L_law_728 : decode code 728 = .ok (.iadd, 1) := by decide +kernel
theorem d_L_law_729 : decode code 729 = .ok (.iaload, 1) := by decide +kernel
theorem d_L_law_730 : decode code 730 = .ok (.aload_n 0, 1) := by decide +kernel
theorem d_L_law_731 : decode code 731 = .ok (.iload 4, 2) := by decide +kernel
theorem d_L_law_733 : decode code 733 = .ok (.iconst 2, 1) := by decide +kernel
theorem d_L_law_734 : decode code 734 = .ok (.iadd, 1) := by decide +kernel
theorem d_L_law_735 : decode code 735 = .ok (.iaload, 1) := by decide +kernel
theorem d_L_law_736 : decode code 736 = .ok (.invokevirtual 136, 3) := by decide +kernel
theorem d_L_law_739 : decode code 739 = .ok (.istore 6, 2) := by decide +kernel
theorem d_L_law_741 : decode code 741 = .ok (.goto 3, 3) := by decide +kernel
theorem d_L_law_0 : decode code 0 = .ok (.new 8, 3) := by decide +kernel
theorem d_L_law_3 : decode code 3 = .ok (.dup, 1) := by decide +kernel
theorem d_L_law_4 : decode code 4 = .ok (.invokespecial 65, 3) := by decide +kernel
theorem d_L_law_7 : decode code 7 = .ok (.astore_n 1, 1) := by decide +kernel
theorem d_L_law_8 : decode code 8 = .ok (.new 66, 3) := by decide +kernel
theorem d_L_law_11 : decode code 11 = .ok (.dup, 1) := by decide +kernel
theorem d_L_law_12 : decode code 12 = .ok (.invokespecial 68, 3) := by decide +kernel
theorem d_L_law_15 : decode code 15 = .ok (.astore_n 2, 1) := by decide +kernel
theorem d_L_law_16 : decode code 16 = .ok (.iconst 1, 1) := by decide +kernel
theorem d_L_law_17 : decode code 17 = .ok (.newarray .long, 2) := by decide +kernel
theorem d_L_law_19 : decode code 19 = .ok (.astore_n 3, 1) := by decide +kernel
theorem d_L_law_20 : decode code 20 = .ok (.iconst 0, 1) := by decide +kernel
theorem d_L_law_21 : decode code 21 = .ok (.istore 4, 2) := by decide +kernel
theorem d_L_law_23 : decode code 23 = .ok (.iload 4, 2) := by decide +kernel
theorem d_L_law_25 : decode code 25 = .ok (.aload_n 0, 1) := by decide +kernel
theorem d_L_law_26 : decode code 26 = .ok (.arraylength, 1) := by decide +kernel
theorem d_L_law_27 : decode code 27 = .ok (.bipush 6, 2) := by decide +kernel
theorem d_L_law_29 : decode code 29 = .ok (.isub, 1) := by decide +kernel
theorem d_L_law_30 : decode code 30 = .ok (.if_icmp .gt 720, 3) := by decide +kernel
theorem d_L_law_750 : decode code 750 = .ok (.iconst 1, 1) := by decide +kernel
theorem d_L_law_751 : decode code 751 = .ok (.ireturn, 1) := by decide +kernel
theorem d_L_law_33 : decode code 33 = .ok (.aload_n 0, 1) := by decide +kernel
theorem d_L_law_34 : decode code 34 = .ok (.iload 4, 2) := by decide +kernel
theorem d_L_law_36 : decode code 36 = .ok (.iaload, 1) := by decide +kernel
