theorem d_L_law_167 : decode code 167 = .ok (.if_icmp .eq 5, 3) := by decide +kernel
theorem d_L_law_172 : decode code 172 = .ok (.iload 5, 2) := by decide +kernel
theorem d_L_law_174 : decode code 174 = .ok (.ifCond .ne 15, 3) := by decide +kernel
theorem d_L_law_177 : decode code 177 = .ok (.aload_n 3, 1) := by decide +kernel
theorem d_L_law_178 : decode code 178 = .ok (.iconst 0, 1) := by decide +kernel
theorem d_L_law_179 : decode code 179 = .ok (.laload, 1) := by decide +kernel
theorem d_L_law_180 : decode code 180 = .ok (.iload 6, 2) := by decide +kernel
theorem d_L_law_182 : decode code 182 = .ok (.i2l, 1) := by decide +kernel
theorem d_L_law_183 : decode code 183 = .ok (.lcmp, 1) := by decide +kernel
theorem d_L_law_184 : decode code 184 = .ok (.ifCond .eq 5, 3) := by decide +kernel
theorem d_L_law_189 : decode code 189 = .ok (.goto 864, 3) := by decide +kernel
theorem d_L_law_1053 : decode code 1053 = .ok (.iinc 4 6, 3) := by decide +kernel
theorem d_L_law_1056 : decode code 1056 = .ok (.goto (-1033), 3) := by decide +kernel
theorem d_L_law_23 : decode code 23 = .ok (.iload 4, 2) := by decide +kernel
theorem d_L_law_25 : decode code 25 = .ok (.aload_n 0, 1) := by decide +kernel
theorem d_L_law_26 : decode code 26 = .ok (.arraylength, 1) := by decide +kernel
theorem d_L_law_27 : decode code 27 = .ok (.bipush 6, 2) := by decide +kernel
theorem d_L_law_29 : decode code 29 = .ok (.isub, 1) := by decide +kernel
theorem d_L_law_30 : decode code 30 = .ok (.if_icmp .gt 1029, 3) := by decide +kernel
theorem d_L_law_1059 : decode code 1059 = .ok (.iconst 1, 1) := by decide +kernel
theorem d_L_law_1060 : decode code 1060 = .ok (.ireturn, 1) := by decide +kernel
theorem d_L_law_192 : decode code 192 = .ok (.aload_n 1, 1) := by decide +kernel
theorem d_L_law_193 : decode code 193 = .ok (.aload_n 0, 1) := by decide +kernel
theorem d_L_law_194 : decode code 194 = .ok (.iload 4, 2) := by decide +kernel
theorem d_L_law_196 : decode code 196 = .ok (.iconst 1, 1) := by decide +kernel
theorem d_L_law_197 : decode code 197 = .ok (.iadd, 1) := by decide +kernel
theorem d_L_law_198 : decode code 198 = .ok (.iaload, 1) := by decide +kernel
theorem d_L_law_199 : decode code 199 = .ok (.aload_n 0, 1) := by decide +kernel
theorem d_L_law_200 : decode code 200 = .ok (.iload 4, 2) := by decide +kernel
theorem d_L_law_202 : decode code 202 = .ok (.iconst 2, 1) := by decide +kernel
theorem d_L_law_203 : decode code 203 = .ok (.iadd, 1) := by decide +kernel
theorem d_L_law_204 : decode code 204 = .ok (.iaload, 1) := by decide +kernel
theorem d_L_law_205 : decode code 205 = .ok (.aload_n 0, 1) := by decide +kernel
theorem d_L_law_206 : decode code 206 = .ok (.iload 4, 2) := by decide +kernel
theorem d_L_law_208 : decode code 208 = .ok (.iconst 3, 1) := by decide +kernel
theorem d_L_law_209 : decode code 209 = .ok (.iadd, 1) := by decide +kernel
theorem d_L_law_210 : decode code 210 = .ok (.iaload, 1) := by decide +kernel
theorem d_L_law_211 : decode code 211 = .ok (.aload_n 0, 1) := by decide +kernel
theorem d_L_law_212 : decode code 212 = .ok (.iload 4, 2) := by decide +kernel
theorem d_L_law_214 : decode code 214 = .ok (.iconst 4, 1) := by decide +kernel
theorem d_L_law_215 : decode code 215 = .ok (.iadd, 1) := by decide +kernel
theorem d_L_law_216 : decode code 216 = .ok (.iaload, 1) := by decide +kernel
theorem d_L_law_217 : decode code 217 = .ok (.aload_n 3, 1) := by decide +kernel
theorem d_L_law_218 : decode code 218 = .ok (.invokestatic 78, 3) := by decide +kernel
theorem d_L_law_221 : decode code 221 = .ok (.istore 5, 2) := by decide +kernel
theorem d_L_law_223 : decode code 223 = .ok (.aload_n 2, 1) := by decide +kernel
theorem d_L_law_224 : decode code 224 = .ok (.aload_n 0, 1) := by decide +kernel
theorem d_L_law_225 : decode code 225 = .ok (.iload 4, 2) := by decide +kernel
theorem d_L_law_227 : decode code 227 = .ok (.iconst 1, 1) := by decide +kernel
theorem d_L_law_228 : decode code 228 = .ok (.iadd, 1) := by decide +kernel
theorem d_L_law_229 : decode code 229 = .ok (.iaload, 1) := by decide +kernel
theorem d_L_law_230 : decode code 230 = .ok (.aload_n 0, 1) := by decide +kernel
theorem d_L_law_231 : decode code 231 = .ok (.iload 4, 2) := by decide +kernel
theorem d_L_law_233 : decode code 233 = .ok (.iconst 2, 1) := by decide +kernel
theorem d_L_law_234 : decode code 234 = .ok (.iadd, 1) := by decide +kernel
theorem d_L_law_235 : decode code 235 = .ok (.iaload, 1) := by decide +kernel
theorem d_L_law_236 : decode code 236 = .ok (.aload_n 0, 1) := by decide +kernel
theorem d_L_law_237 : decode code 237 = .ok (.iload 4, 2) := by decide +kernel
theorem d_L_law_239 : decode code 239 = .ok (.iconst 3, 1) := by decide +kernel
theorem d_L_law_240 : decode code 240 = .ok (.iadd, 1) := by decide +kernel
theorem d_L_law_241 : decode code 241 = .ok (.iaload, 1) := by decide +kernel
theorem d_L_law_242 : decode code 242 = .ok (.aload_n 0, 1) := by decide +kernel
theorem d_L_law_243 : decode code 243 = .ok (.iload 4, 2) := by decide +kernel
theorem d_L_law_245 : decode code 245 = .ok (.iconst 4, 1) := by decide +kernel
theorem d_L_law_246 : decode code 246 = .ok (.iadd, 1) := by decide +kernel
theorem d_L_law_247 : decode code 247 = .ok (.iaload, 1) := by decide +kernel
theorem d_L_law_248 : decode code 248 = .ok (.invokevirtual 81, 3) := by decide +kernel
theorem d_L_law_251 : decode code 251 = .ok (.istore 6, 2) := by decide +kernel
theorem d_L_law_253 : decode code 253 = .ok (.aload_n 2, 1) := by decide +kernel
theorem d_L_law_254 : decode code 254 = .ok (.invokevirtual 75, 3) := by decide +kernel
theorem d_L_law_257 : decode code 257 = .ok (.iload 5, 2) := by decide +kernel
theorem d_L_law_259 : decode code 259 = .ok (.if_icmp .eq 5, 3) := by decide +kernel
theorem d_L_law_264 : decode code 264 = .ok (.iload 5, 2) := by decide +kernel
theorem d_L_law_266 : decode code 266 = .ok (.ifCond .ne 15, 3) := by decide +kernel
theorem d_L_law_281 : decode code 281 = .ok (.goto 772, 3) := by decide +kernel
theorem d_L_law_284 : decode code 284 = .ok (.aload_n 1, 1) := by decide +kernel
theorem d_L_law_285 : decode code 285 = .ok (.aload_n 0, 1) := by decide +kernel
theorem d_L_law_286 : decode code 286 = .ok (.iload 4, 2) := by decide +kernel
theorem d_L_law_288 : decode code 288 = .ok (.iconst 1, 1) := by decide +kernel
theorem d_L_law_289 : decode code 289 = .ok (.iadd, 1) := by decide +kernel
theorem d_L_law_290 : decode code 290 = .ok (.iaload, 1) := by decide +kernel
theorem d_L_law_291 : decode code 291 = .ok (.aload_n 0, 1) := by decide +kernel
theorem d_L_law_292 : decode code 292 = .ok (.iload 4, 2) := by decide +kernel
theorem d_L_law_294 : decode code 294 = .ok (.iconst 2, 1) := by decide +kernel
theorem d_L_law_295 : decode code 295 = .ok (.iadd, 1) := by decide +kernel
theorem d_L_law_296 : decode code 296 = .ok (.iaload, 1) := by decide +kernel
theorem d_L_law_297 : decode code 297 = .ok (.aload_n 0, 1) := by decide +kernel
theorem d_L_law_298 : decode code 298 = .ok (.iload 4, 2) := by decide +kernel
theorem d_L_law_300 : decode code 300 = .ok (.iconst 3, 1) := by decide +kernel
theorem d_L_law_301 : decode code 301 = .ok (.iadd, 1) := by decide +kernel
theorem d_L_law_302 : decode code 302 = .ok (.iaload, 1) := by decide +kernel
theorem d_L_law_303 : decode code 303 = .ok (.aload_n 0, 1) := by decide +kernel
theorem d_L_law_304 : decode code 304 = .ok (.iload 4, 2) := by decide +kernel
theorem d_L_law_306 : decode code 306 = .ok (.iconst 4, 1) := by decide +kernel
theorem d_L_law_307 : decode code 307 = .ok (.iadd, 1) := by decide +kernel
theorem d_L_law_308 : decode code 308 = .ok (.iaload, 1) := by decide +kernel
theorem d_L_law_309 : decode code 309 = .ok (.aload_n 0, 1) := by decide +kernel
theorem d_L_law_310 : decode code 310 = .ok (.iload 4, 2) := by decide +kernel
theorem d_L_law_312 : decode code 312 = .ok (.iconst 5, 1) := by decide +kernel
theorem d_L_law_313 : decode code 313 = .ok (.iadd, 1) := by decide +kernel
theorem d_L_law_314 : decode code 314 = .ok (.iaload, 1) := by decide +kernel
theorem d_L_law_315 : decode code 315 = .ok (.invokestatic 82, 3) := by decide +kernel
theorem d_L_law_318 : decode code 318 = .ok (.istore 5, 2) := by decide +kernel
theorem d_L_law_320 : decode code 320 = .ok (.aload_n 2, 1) := by decide +kernel
theorem d_L_law_321 : decode code 321 = .ok (.aload_n 0, 1) := by decide +kernel
theorem d_L_law_322 : decode code 322 = .ok (.iload 4, 2) := by decide +kernel
theorem d_L_law_324 : decode code 324 = .ok (.iconst 1, 1) := by decide +kernel
theorem d_L_law_325 : decode code 325 = .ok (.iadd, 1) := by decide +kernel
theorem d_L_law_326 : decode code 326 = .ok (.iaload, 1) := by decide +kernel
theorem d_L_law_327 : decode code 327 = .ok (.aload_n 0, 1) := by decide +kernel
theorem d_L_law_328 : decode code 328 = .ok (.iload 4, 2) := by decide +kernel
theorem d_L_law_330 : decode code 330 = .ok (.iconst 2, 1) := by decide +kernel
theorem d_L_law_331 : decode code 331 = .ok (.iadd, 1) := by decide +kernel
theorem d_L_law_332 : decode code 332 = .ok (.iaload, 1) := by decide +kernel
theorem d_L_law_333 : decode code 333 = .ok (.aload_n 0, 1) := by decide +kernel
theorem d_L_law_334 : decode code 334 = .ok (.iload 4, 2) := by decide +kernel
theorem d_L_law_336 : decode code 336 = .ok (.iconst 3, 1) := by decide +kernel
theorem d_L_law_337 : decode code 337 = .ok (.iadd, 1) := by decide +kernel
theorem d_L_law_338 : decode code 338 = .ok (.iaload, 1) := by decide +kernel
theorem d_L_law_339 : decode code 339 = .ok (.aload_n 0, 1) := by decide +kernel
theorem d_L_law_340 : decode code 340 = .ok (.iload 4, 2) := by decide +kernel
theorem d_L_law_342 : decode code 342 = .ok (.iconst 4, 1) := by decide +kernel
theorem d_L_law_343 : decode code 343 = .ok (.iadd, 1) := by decide +kernel
theorem d_L_law_344 : decode code 344 = .ok (.iaload, 1) := by decide +kernel
theorem d_L_law_345 : decode code 345 = .ok (.aload_n 0, 1) := by decide +kernel
theorem d_L_law_346 : decode code 346 = .ok (.iload 4, 2) := by decide +kernel
theorem d_L_law_348 : decode code 348 = .ok (.iconst 5, 1) := by decide +kernel
theorem d_L_law_349 : decode code 349 = .ok (.iadd, 1) := by decide +kernel
theorem d_L_law_350 : decode code 350 = .ok (.iaload, 1) := by decide +kernel
theorem d_L_law_351 : decode code 351 = .ok (.invokevirtual 85, 3) := by decide +kernel
theorem d_L_law_354 : decode code 354 = .ok (.aload_n 2, 1) := by decide +kernel
theorem d_L_law_355 : decode code 355 = .ok (.invokevirtual 75, 3) := by decide +kernel
theorem d_L_law_358 : decode code 358 = .ok (.iload 5, 2) := by decide +kernel
theorem d_L_law_360 : decode code 360 = .ok (.if_icmp .eq 5, 3) := by decide +kernel
theorem d_L_law_365 : decode code 365 = .ok (.goto 688, 3) := by decide +kernel
theorem d_L_law_368 : decode code 368 = .ok (.aload_n 1, 1) := by decide +kernel
theorem d_L_law_369 : decode code 369 = .ok (.aload_n 3, 1) := by decide +kernel
theorem d_L_law_370 : decode code 370 = .ok (.invokestatic 86, 3) := by decide +kernel
theorem d_L_law_373 : decode code 373 = .ok (.istore 5, 2) := by decide +kernel
theorem d_L_law_375 : decode code 375 = .ok (.aload_n 2, 1) := by decide +kernel
theorem d_L_law_376 : decode code 376 = .ok (.invokevirtual 89, 3) := by decide +kernel
theorem d_L_law_379 : decode code 379 = .ok (.istore 6, 2) := by decide +kernel
theorem d_L_law_381 : decode code 381 = .ok (.aload_n 2, 1) := by decide +kernel
theorem d_L_law_382 : decode code 382 = .ok (.invokevirtual 75, 3) := by decide +kernel
theorem d_L_law_385 : decode code 385 = .ok (.iload 5, 2) := by decide +kernel
theorem d_L_law_387 : decode code 387 = .ok (.if_icmp .eq 5, 3) := by decide +kernel
theorem d_L_law_392 : decode code 392 = .ok (.iload 5, 2) := by decide +kernel
theorem d_L_law_394 : decode code 394 = .ok (.ifCond .ne 15, 3) := by decide +kernel
theorem d_L_law_409 : decode code 409 = .ok (.goto 644, 3) := by decide +kernel
theorem d_L_law_437 : decode code 437 = .ok (.aload_n 1, 1) := by decide +kernel
theorem d_L_law_438 : decode code 438 = .ok (.aload_n 0, 1) := by decide +kernel
theorem d_L_law_439 : decode code 439 = .ok (.iload 4, 2) := by decide +kernel
theorem d_L_law_441 : decode code 441 = .ok (.iconst 1, 1) := by decide +kernel
theorem d_L_law_442 : decode code 442 = .ok (.iadd, 1) := by decide +kernel
theorem d_L_law_443 : decode code 443 = .ok (.iaload, 1) := by decide +kernel
theorem d_L_law_444 : decode code 444 = .ok (.aload_n 3, 1) := by decide +kernel
theorem d_L_law_445 : decode code 445 = .ok (.invokestatic 94, 3) := by decide +kernel
theorem d_L_law_448 : decode code 448 = .ok (.istore 5, 2) := by decide +kernel
theorem d_L_law_450 : decode code 450 = .ok (.aload_n 2, 1) := by decide +kernel
theorem d_L_law_451 : decode code 451 = .ok (.aload_n 0, 1) := by decide +kernel
theorem d_L_law_452 : decode code 452 = .ok (.iload 4, 2) := by decide +kernel
theorem d_L_law_454 : decode code 454 = .ok (.iconst 1, 1) := by decide +kernel
theorem d_L_law_455 : decode code 455 = .ok (.iadd, 1) := by decide +kernel
theorem d_L_law_456 : decode code 456 = .ok (.iaload, 1) := by decide +kernel
theorem d_L_law_457 : decode code 457 = .ok (.invokevirtual 97, 3) := by decide +kernel
theorem d_L_law_460 : decode code 460 = .ok (.istore 6, 2) := by decide +kernel
theorem d_L_law_462 : decode code 462 = .ok (.aload_n 2, 1) := by decide +kernel
theorem d_L_law_463 : decode code 463 = .ok (.invokevirtual 75, 3) := by decide +kernel
theorem d_L_law_466 : decode code 466 = .ok (.iload 5, 2) := by decide +kernel
theorem d_L_law_468 : decode code 468 = .ok (.if_icmp .eq 5, 3) := by decide +kernel
theorem d_L_law_473 : decode code 473 = .ok (.iload 5, 2) := by decide +kernel
theorem d_L_law_475 : decode code 475 = .ok (.ifCond .ne 15, 3) := by decide +kernel
theorem d_L_law_490 : decode code 490 = .ok (.goto 563, 3) := by decide +kernel
theorem d_L_law_493 : decode code 493 = .ok (.aload_n 1, 1) := by decide +kernel
theorem d_L_law_494 : decode code 494 = .ok (.aload_n 0, 1) := by decide +kernel
theorem d_L_law_495 : decode code 495 = .ok (.iload 4, 2) := by decide +kernel
theorem d_L_law_497 : decode code 497 = .ok (.iconst 1, 1) := by decide +kernel
theorem d_L_law_498 : decode code 498 = .ok (.iadd, 1) := by decide +kernel
theorem d_L_law_499 : decode code 499 = .ok (.iaload, 1) := by decide +kernel
theorem d_L_law_500 : decode code 500 = .ok (.aload_n 0, 1) := by decide +kernel
theorem d_L_law_501 : decode code 501 = .ok (.iload 4, 2) := by decide +kernel
theorem d_L_law_503 : decode code 503 = .ok (.iconst 2, 1) := by decide +kernel
theorem d_L_law_504 : decode code 504 = .ok (.iadd, 1) := by decide +kernel
theorem d_L_law_505 : decode code 505 = .ok (.iaload, 1) := by decide +kernel
theorem d_L_law_506 : decode code 506 = .ok (.aload_n 3, 1) := by decide +kernel
theorem d_L_law_507 : decode code 507 = .ok (.invokestatic 98, 3) := by decide +kernel
theorem d_L_law_510 : decode code 510 = .ok (.istore 5, 2) := by decide +kernel
theorem d_L_law_512 : decode code 512 = .ok (.aload_n 2, 1) := by decide +kernel
theorem d_L_law_513 : decode code 513 = .ok (.aload_n 0, 1) := by decide +kernel
theorem d_L_law_514 : decode code 514 = .ok (.iload 4, 2) := by decide +kernel
theorem d_L_law_516 : decode code 516 = .ok (.iconst 1, 1) := by decide +kernel
theorem d_L_law_517 : decode code 517 = .ok (.iadd, 1) := by decide +kernel
theorem d_L_law_518 : decode code 518 = .ok (.iaload, 1) := by decide +kernel
theorem d_L_law_519 : decode code 519 = .ok (.aload_n 0, 1) := by decide +kernel
theorem d_L_law_520 : decode code 520 = .ok (.iload 4, 2) := by decide +kernel
theorem d_L_law_522 : decode code 522 = .ok (.iconst 2, 1) := by decide +kernel
theorem d_L_law_523 : decode code 523 = .ok (.iadd, 1) := by decide +kernel
theorem d_L_law_524 : decode code 524 = .ok (.iaload, 1) := by decide +kernel
theorem d_L_law_525 : decode code 525 = .ok (.invokevirtual 100, 3) := by decide +kernel
theorem d_L_law_528 : decode code 528 = .ok (.istore 6, 2) := by decide +kernel
