theorem dL_0 : decode code 0 = .ok (.new 7, 3) := by decide +kernel
theorem dL_3 : decode code 3 = .ok (.dup, 1) := by decide +kernel
theorem dL_4 : decode code 4 = .ok (.invokespecial 9, 3) := by decide +kernel
theorem dL_7 : decode code 7 = .ok (.astore_n 1, 1) := by decide +kernel
theorem dL_8 : decode code 8 = .ok (.new 10, 3) := by decide +kernel
theorem dL_11 : decode code 11 = .ok (.dup, 1) := by decide +kernel
theorem dL_12 : decode code 12 = .ok (.invokespecial 12, 3) := by decide +kernel
theorem dL_15 : decode code 15 = .ok (.astore_n 2, 1) := by decide +kernel
theorem dL_16 : decode code 16 = .ok (.iconst 0, 1) := by decide +kernel
theorem dL_17 : decode code 17 = .ok (.istore_n 3, 1) := by decide +kernel
theorem dL_18 : decode code 18 = .ok (.iload_n 3, 1) := by decide +kernel
theorem dL_19 : decode code 19 = .ok (.aload_n 0, 1) := by decide +kernel
theorem dL_20 : decode code 20 = .ok (.arraylength, 1) := by decide +kernel
theorem dL_21 : decode code 21 = .ok (.iconst 5, 1) := by decide +kernel
theorem dL_22 : decode code 22 = .ok (.isub, 1) := by decide +kernel
theorem dL_23 : decode code 23 = .ok (.if_icmp .gt 977, 3) := by decide +kernel
theorem dL_26 : decode code 26 = .ok (.aload_n 0, 1) := by decide +kernel
theorem dL_27 : decode code 27 = .ok (.iload_n 3, 1) := by decide +kernel
theorem dL_28 : decode code 28 = .ok (.iaload, 1) := by decide +kernel
theorem dL_29 : decode code 29 = .ok (.bipush 31, 2) := by decide +kernel
theorem dL_31 : decode code 31 = .ok (.iand, 1) := by decide +kernel
theorem dL_32 : decode code 32 = .ok (.tableswitch 962 0 28 #[132, 155, 168, 181, 194, 227, 250, 263, 296, 319, 342, 355, 378, 401, 424, 457, 500, 523, 586, 619, 632, 655, 704, 747, 816, 870, 893, 916, 939], 132) := by decide +kernel
theorem dL_164 : decode code 164 = .ok (.aload_n 1, 1) := by decide +kernel
theorem dL_165 : decode code 165 = .ok (.aload_n 0, 1) := by decide +kernel
theorem dL_166 : decode code 166 = .ok (.iload_n 3, 1) := by decide +kernel
theorem dL_167 : decode code 167 = .ok (.iconst 1, 1) := by decide +kernel
theorem dL_168 : decode code 168 = .ok (.iadd, 1) := by decide +kernel
theorem dL_169 : decode code 169 = .ok (.iaload, 1) := by decide +kernel
theorem dL_170 : decode code 170 = .ok (.invokevirtual 13, 3) := by decide +kernel
theorem dL_173 : decode code 173 = .ok (.aload_n 2, 1) := by decide +kernel
theorem dL_174 : decode code 174 = .ok (.aload_n 0, 1) := by decide +kernel
theorem dL_175 : decode code 175 = .ok (.iload_n 3, 1) := by decide +kernel
theorem dL_176 : decode code 176 = .ok (.iconst 1, 1) := by decide +kernel
theorem dL_177 : decode code 177 = .ok (.iadd, 1) := by decide +kernel
theorem dL_178 : decode code 178 = .ok (.iaload, 1) := by decide +kernel
theorem dL_179 : decode code 179 = .ok (.invokevirtual 17, 3) := by decide +kernel
theorem dL_182 : decode code 182 = .ok (.if_icmp .eq 812, 3) := by decide +kernel
theorem dL_185 : decode code 185 = .ok (.iconst 0, 1) := by decide +kernel
theorem dL_186 : decode code 186 = .ok (.ireturn, 1) := by decide +kernel
theorem dL_187 : decode code 187 = .ok (.aload_n 1, 1) := by decide +kernel
theorem dL_188 : decode code 188 = .ok (.invokevirtual 18, 3) := by decide +kernel
theorem dL_191 : decode code 191 = .ok (.aload_n 2, 1) := by decide +kernel
theorem dL_192 : decode code 192 = .ok (.invokevirtual 22, 3) := by decide +kernel
theorem dL_195 : decode code 195 = .ok (.if_icmp .eq 799, 3) := by decide +kernel
theorem dL_198 : decode code 198 = .ok (.iconst 0, 1) := by decide +kernel
theorem dL_199 : decode code 199 = .ok (.ireturn, 1) := by decide +kernel
theorem dL_200 : decode code 200 = .ok (.aload_n 1, 1) := by decide +kernel
theorem dL_201 : decode code 201 = .ok (.invokevirtual 23, 3) := by decide +kernel
theorem dL_204 : decode code 204 = .ok (.aload_n 2, 1) := by decide +kernel
theorem dL_205 : decode code 205 = .ok (.invokevirtual 26, 3) := by decide +kernel
theorem dL_208 : decode code 208 = .ok (.if_icmp .eq 786, 3) := by decide +kernel
theorem dL_211 : decode code 211 = .ok (.iconst 0, 1) := by decide +kernel
theorem dL_212 : decode code 212 = .ok (.ireturn, 1) := by decide +kernel
theorem dL_213 : decode code 213 = .ok (.aload_n 1, 1) := by decide +kernel
theorem dL_214 : decode code 214 = .ok (.invokevirtual 27, 3) := by decide +kernel
theorem dL_217 : decode code 217 = .ok (.aload_n 2, 1) := by decide +kernel
theorem dL_218 : decode code 218 = .ok (.invokevirtual 30, 3) := by decide +kernel
theorem dL_221 : decode code 221 = .ok (.if_icmp .eq 773, 3) := by decide +kernel
theorem dL_224 : decode code 224 = .ok (.iconst 0, 1) := by decide +kernel
theorem dL_225 : decode code 225 = .ok (.ireturn, 1) := by decide +kernel
theorem dL_226 : decode code 226 = .ok (.aload_n 1, 1) := by decide +kernel
theorem dL_227 : decode code 227 = .ok (.aload_n 0, 1) := by decide +kernel
theorem dL_228 : decode code 228 = .ok (.iload_n 3, 1) := by decide +kernel
theorem dL_229 : decode code 229 = .ok (.iconst 1, 1) := by decide +kernel
theorem dL_230 : decode code 230 = .ok (.iadd, 1) := by decide +kernel
theorem dL_231 : decode code 231 = .ok (.iaload, 1) := by decide +kernel
theorem dL_232 : decode code 232 = .ok (.aload_n 0, 1) := by decide +kernel
theorem dL_233 : decode code 233 = .ok (.iload_n 3, 1) := by decide +kernel
theorem dL_234 : decode code 234 = .ok (.iconst 2, 1) := by decide +kernel
theorem dL_235 : decode code 235 = .ok (.iadd, 1) := by decide +kernel
theorem dL_236 : decode code 236 = .ok (.iaload, 1) := by decide +kernel
theorem dL_237 : decode code 237 = .ok (.invokevirtual 31, 3) := by decide +kernel
theorem dL_240 : decode code 240 = .ok (.aload_n 2, 1) := by decide +kernel
theorem dL_241 : decode code 241 = .ok (.aload_n 0, 1) := by decide +kernel
theorem dL_242 : decode code 242 = .ok (.iload_n 3, 1) := by decide +kernel
theorem dL_243 : decode code 243 = .ok (.iconst 1, 1) := by decide +kernel
theorem dL_244 : decode code 244 = .ok (.iadd, 1) := by decide +kernel
theorem dL_245 : decode code 245 = .ok (.iaload, 1) := by decide +kernel
theorem dL_246 : decode code 246 = .ok (.aload_n 0, 1) := by decide +kernel
theorem dL_247 : decode code 247 = .ok (.iload_n 3, 1) := by decide +kernel
theorem dL_248 : decode code 248 = .ok (.iconst 2, 1) := by decide +kernel
theorem dL_249 : decode code 249 = .ok (.iadd, 1) := by decide +kernel
theorem dL_250 : decode code 250 = .ok (.iaload, 1) := by decide +kernel
theorem dL_251 : decode code 251 = .ok (.invokevirtual 35, 3) := by decide +kernel
theorem dL_254 : decode code 254 = .ok (.if_icmp .eq 740, 3) := by decide +kernel
theorem dL_257 : decode code 257 = .ok (.iconst 0, 1) := by decide +kernel
theorem dL_258 : decode code 258 = .ok (.ireturn, 1) := by decide +kernel
theorem dL_259 : decode code 259 = .ok (.aload_n 1, 1) := by decide +kernel
theorem dL_260 : decode code 260 = .ok (.aload_n 0, 1) := by decide +kernel
theorem dL_261 : decode code 261 = .ok (.iload_n 3, 1) := by decide +kernel
theorem dL_262 : decode code 262 = .ok (.iconst 1, 1) := by decide +kernel
theorem dL_263 : decode code 263 = .ok (.iadd, 1) := by decide +kernel
theorem dL_264 : decode code 264 = .ok (.iaload, 1) := by decide +kernel
theorem dL_265 : decode code 265 = .ok (.invokevirtual 36, 3) := by decide +kernel
theorem dL_268 : decode code 268 = .ok (.aload_n 2, 1) := by decide +kernel
theorem dL_269 : decode code 269 = .ok (.aload_n 0, 1) := by decide +kernel
theorem dL_270 : decode code 270 = .ok (.iload_n 3, 1) := by decide +kernel
theorem dL_271 : decode code 271 = .ok (.iconst 1, 1) := by decide +kernel
theorem dL_272 : decode code 272 = .ok (.iadd, 1) := by decide +kernel
theorem dL_273 : decode code 273 = .ok (.iaload, 1) := by decide +kernel
theorem dL_274 : decode code 274 = .ok (.invokevirtual 39, 3) := by decide +kernel
theorem dL_277 : decode code 277 = .ok (.if_icmp .eq 717, 3) := by decide +kernel
theorem dL_280 : decode code 280 = .ok (.iconst 0, 1) := by decide +kernel
theorem dL_281 : decode code 281 = .ok (.ireturn, 1) := by decide +kernel
theorem dL_282 : decode code 282 = .ok (.aload_n 1, 1) := by decide +kernel
theorem dL_283 : decode code 283 = .ok (.invokevirtual 40, 3) := by decide +kernel
theorem dL_286 : decode code 286 = .ok (.aload_n 2, 1) := by decide +kernel
theorem dL_287 : decode code 287 = .ok (.invokevirtual 43, 3) := by decide +kernel
theorem dL_290 : decode code 290 = .ok (.if_icmp .eq 704, 3) := by decide +kernel
theorem dL_293 : decode code 293 = .ok (.iconst 0, 1) := by decide +kernel
theorem dL_294 : decode code 294 = .ok (.ireturn, 1) := by decide +kernel
theorem dL_295 : decode code 295 = .ok (.aload_n 1, 1) := by decide +kernel
theorem dL_296 : decode code 296 = .ok (.aload_n 0, 1) := by decide +kernel
theorem dL_297 : decode code 297 = .ok (.iload_n 3, 1) := by decide +kernel
theorem dL_298 : decode code 298 = .ok (.iconst 1, 1) := by decide +kernel
theorem dL_299 : decode code 299 = .ok (.iadd, 1) := by decide +kernel
theorem dL_300 : decode code 300 = .ok (.iaload, 1) := by decide +kernel
theorem dL_301 : decode code 301 = .ok (.aload_n 0, 1) := by decide +kernel
theorem dL_302 : decode code 302 = .ok (.iload_n 3, 1) := by decide +kernel
theorem dL_303 : decode code 303 = .ok (.iconst 2, 1) := by decide +kernel
theorem dL_304 : decode code 304 = .ok (.iadd, 1) := by decide +kernel
theorem dL_305 : decode code 305 = .ok (.iaload, 1) := by decide +kernel
theorem dL_306 : decode code 306 = .ok (.invokevirtual 44, 3) := by decide +kernel
theorem dL_309 : decode code 309 = .ok (.aload_n 2, 1) := by decide +kernel
theorem dL_310 : decode code 310 = .ok (.aload_n 0, 1) := by decide +kernel
theorem dL_311 : decode code 311 = .ok (.iload_n 3, 1) := by decide +kernel
theorem dL_312 : decode code 312 = .ok (.iconst 1, 1) := by decide +kernel
theorem dL_313 : decode code 313 = .ok (.iadd, 1) := by decide +kernel
theorem dL_314 : decode code 314 = .ok (.iaload, 1) := by decide +kernel
theorem dL_315 : decode code 315 = .ok (.aload_n 0, 1) := by decide +kernel
theorem dL_316 : decode code 316 = .ok (.iload_n 3, 1) := by decide +kernel
theorem dL_317 : decode code 317 = .ok (.iconst 2, 1) := by decide +kernel
theorem dL_318 : decode code 318 = .ok (.iadd, 1) := by decide +kernel
theorem dL_319 : decode code 319 = .ok (.iaload, 1) := by decide +kernel
theorem dL_320 : decode code 320 = .ok (.invokevirtual 47, 3) := by decide +kernel
theorem dL_323 : decode code 323 = .ok (.if_icmp .eq 671, 3) := by decide +kernel
theorem dL_326 : decode code 326 = .ok (.iconst 0, 1) := by decide +kernel
theorem dL_327 : decode code 327 = .ok (.ireturn, 1) := by decide +kernel
theorem dL_328 : decode code 328 = .ok (.aload_n 1, 1) := by decide +kernel
theorem dL_329 : decode code 329 = .ok (.aload_n 0, 1) := by decide +kernel
theorem dL_330 : decode code 330 = .ok (.iload_n 3, 1) := by decide +kernel
theorem dL_331 : decode code 331 = .ok (.iconst 1, 1) := by decide +kernel
theorem dL_332 : decode code 332 = .ok (.iadd, 1) := by decide +kernel
theorem dL_333 : decode code 333 = .ok (.iaload, 1) := by decide +kernel
theorem dL_334 : decode code 334 = .ok (.invokevirtual 48, 3) := by decide +kernel
theorem dL_337 : decode code 337 = .ok (.aload_n 2, 1) := by decide +kernel
theorem dL_338 : decode code 338 = .ok (.aload_n 0, 1) := by decide +kernel
theorem dL_339 : decode code 339 = .ok (.iload_n 3, 1) := by decide +kernel
theorem dL_340 : decode code 340 = .ok (.iconst 1, 1) := by decide +kernel
theorem dL_341 : decode code 341 = .ok (.iadd, 1) := by decide +kernel
theorem dL_342 : decode code 342 = .ok (.iaload, 1) := by decide +kernel
theorem dL_343 : decode code 343 = .ok (.invokevirtual 51, 3) := by decide +kernel
theorem dL_346 : decode code 346 = .ok (.if_icmp .eq 648, 3) := by decide +kernel
theorem dL_349 : decode code 349 = .ok (.iconst 0, 1) := by decide +kernel
theorem dL_350 : decode code 350 = .ok (.ireturn, 1) := by decide +kernel
theorem dL_351 : decode code 351 = .ok (.aload_n 1, 1) := by decide +kernel
theorem dL_352 : decode code 352 = .ok (.aload_n 0, 1) := by decide +kernel
theorem dL_353 : decode code 353 = .ok (.iload_n 3, 1) := by decide +kernel
theorem dL_354 : decode code 354 = .ok (.iconst 1, 1) := by decide +kernel
theorem dL_355 : decode code 355 = .ok (.iadd, 1) := by decide +kernel
theorem dL_356 : decode code 356 = .ok (.iaload, 1) := by decide +kernel
theorem dL_357 : decode code 357 = .ok (.invokevirtual 52, 3) := by decide +kernel
theorem dL_360 : decode code 360 = .ok (.aload_n 2, 1) := by decide +kernel
theorem dL_361 : decode code 361 = .ok (.aload_n 0, 1) := by decide +kernel
theorem dL_362 : decode code 362 = .ok (.iload_n 3, 1) := by decide +kernel
theorem dL_363 : decode code 363 = .ok (.iconst 1, 1) := by decide +kernel
theorem dL_364 : decode code 364 = .ok (.iadd, 1) := by decide +kernel
theorem dL_365 : decode code 365 = .ok (.iaload, 1) := by decide +kernel
theorem dL_366 : decode code 366 = .ok (.invokevirtual 55, 3) := by decide +kernel
theorem dL_369 : decode code 369 = .ok (.if_icmp .eq 625, 3) := by decide +kernel
theorem dL_372 : decode code 372 = .ok (.iconst 0, 1) := by decide +kernel
theorem dL_373 : decode code 373 = .ok (.ireturn, 1) := by decide +kernel
theorem dL_374 : decode code 374 = .ok (.aload_n 1, 1) := by decide +kernel
theorem dL_375 : decode code 375 = .ok (.invokevirtual 56, 3) := by decide +kernel
theorem dL_378 : decode code 378 = .ok (.aload_n 2, 1) := by decide +kernel
theorem dL_379 : decode code 379 = .ok (.invokevirtual 59, 3) := by decide +kernel
theorem dL_382 : decode code 382 = .ok (.if_icmp .eq 612, 3) := by decide +kernel
theorem dL_385 : decode code 385 = .ok (.iconst 0, 1) := by decide +kernel
theorem dL_386 : decode code 386 = .ok (.ireturn, 1) := by decide +kernel
theorem dL_387 : decode code 387 = .ok (.aload_n 1, 1) := by decide +kernel
theorem dL_388 : decode code 388 = .ok (.aload_n 0, 1) := by decide +kernel
theorem dL_389 : decode code 389 = .ok (.iload_n 3, 1) := by decide +kernel
theorem dL_390 : decode code 390 = .ok (.iconst 1, 1) := by decide +kernel
theorem dL_391 : decode code 391 = .ok (.iadd, 1) := by decide +kernel
theorem dL_392 : decode code 392 = .ok (.iaload, 1) := by decide +kernel
theorem dL_393 : decode code 393 = .ok (.invokevirtual 60, 3) := by decide +kernel
theorem dL_396 : decode code 396 = .ok (.aload_n 2, 1) := by decide +kernel
theorem dL_397 : decode code 397 = .ok (.aload_n 0, 1) := by decide +kernel
theorem dL_398 : decode code 398 = .ok (.iload_n 3, 1) := by decide +kernel
theorem dL_399 : decode code 399 = .ok (.iconst 1, 1) := by decide +kernel
theorem dL_400 : decode code 400 = .ok (.iadd, 1) := by decide +kernel
theorem dL_401 : decode code 401 = .ok (.iaload, 1) := by decide +kernel
theorem dL_402 : decode code 402 = .ok (.invokevirtual 63, 3) := by decide +kernel
theorem dL_405 : decode code 405 = .ok (.if_icmp .eq 589, 3) := by decide +kernel
theorem dL_408 : decode code 408 = .ok (.iconst 0, 1) := by decide +kernel
theorem dL_409 : decode code 409 = .ok (.ireturn, 1) := by decide +kernel
theorem dL_410 : decode code 410 = .ok (.aload_n 1, 1) := by decide +kernel
theorem dL_411 : decode code 411 = .ok (.aload_n 0, 1) := by decide +kernel
theorem dL_412 : decode code 412 = .ok (.iload_n 3, 1) := by decide +kernel
theorem dL_413 : decode code 413 = .ok (.iconst 1, 1) := by decide +kernel
theorem dL_414 : decode code 414 = .ok (.iadd, 1) := by decide +kernel
theorem dL_415 : decode code 415 = .ok (.iaload, 1) := by decide +kernel
theorem dL_416 : decode code 416 = .ok (.invokevirtual 64, 3) := by decide +kernel
theorem dL_419 : decode code 419 = .ok (.aload_n 2, 1) := by decide +kernel
theorem dL_420 : decode code 420 = .ok (.aload_n 0, 1) := by decide +kernel
theorem dL_421 : decode code 421 = .ok (.iload_n 3, 1) := by decide +kernel
theorem dL_422 : decode code 422 = .ok (.iconst 1, 1) := by decide +kernel
theorem dL_423 : decode code 423 = .ok (.iadd, 1) := by decide +kernel
theorem dL_424 : decode code 424 = .ok (.iaload, 1) := by decide +kernel
theorem dL_425 : decode code 425 = .ok (.invokevirtual 67, 3) := by decide +kernel
theorem dL_428 : decode code 428 = .ok (.if_icmp .eq 566, 3) := by decide +kernel
theorem dL_431 : decode code 431 = .ok (.iconst 0, 1) := by decide +kernel
theorem dL_432 : decode code 432 = .ok (.ireturn, 1) := by decide +kernel
theorem dL_433 : decode code 433 = .ok (.aload_n 1, 1) := by decide +kernel
theorem dL_434 : decode code 434 = .ok (.aload_n 0, 1) := by decide +kernel
theorem dL_435 : decode code 435 = .ok (.iload_n 3, 1) := by decide +kernel
theorem dL_436 : decode code 436 = .ok (.iconst 1, 1) := by decide +kernel
theorem dL_437 : decode code 437 = .ok (.iadd, 1) := by decide +kernel
theorem dL_438 : decode code 438 = .ok (.iaload, 1) := by decide +kernel
theorem dL_439 : decode code 439 = .ok (.invokevirtual 68, 3) := by decide +kernel
theorem dL_442 : decode code 442 = .ok (.aload_n 2, 1) := by decide +kernel
theorem dL_443 : decode code 443 = .ok (.aload_n 0, 1) := by decide +kernel
theorem dL_444 : decode code 444 = .ok (.iload_n 3, 1) := by decide +kernel
theorem dL_445 : decode code 445 = .ok (.iconst 1, 1) := by decide +kernel
theorem dL_446 : decode code 446 = .ok (.iadd, 1) := by decide +kernel
theorem dL_447 : decode code 447 = .ok (.iaload, 1) := by decide +kernel
theorem dL_448 : decode code 448 = .ok (.invokevirtual 71, 3) := by decide +kernel
theorem dL_451 : decode code 451 = .ok (.if_icmp .eq 543, 3) := by decide +kernel
theorem dL_454 : decode code 454 = .ok (.iconst 0, 1) := by decide +kernel
theorem dL_455 : decode code 455 = .ok (.ireturn, 1) := by decide +kernel
theorem dL_456 : decode code 456 = .ok (.aload_n 1, 1) := by decide +kernel
theorem dL_457 : decode code 457 = .ok (.aload_n 0, 1) := by decide +kernel
theorem dL_458 : decode code 458 = .ok (.iload_n 3, 1) := by decide +kernel
theorem dL_459 : decode code 459 = .ok (.iconst 1, 1) := by decide +kernel
theorem dL_460 : decode code 460 = .ok (.iadd, 1) := by decide +kernel
theorem dL_461 : decode code 461 = .ok (.iaload, 1) := by decide +kernel
theorem dL_462 : decode code 462 = .ok (.aload_n 0, 1) := by decide +kernel
theorem dL_463 : decode code 463 = .ok (.iload_n 3, 1) := by decide +kernel
theorem dL_464 : decode code 464 = .ok (.iconst 2, 1) := by decide +kernel
theorem dL_465 : decode code 465 = .ok (.iadd, 1) := by decide +kernel
theorem dL_466 : decode code 466 = .ok (.iaload, 1) := by decide +kernel
theorem dL_467 : decode code 467 = .ok (.invokevirtual 72, 3) := by decide +kernel
theorem dL_470 : decode code 470 = .ok (.aload_n 2, 1) := by decide +kernel
theorem dL_471 : decode code 471 = .ok (.aload_n 0, 1) := by decide +kernel
theorem dL_472 : decode code 472 = .ok (.iload_n 3, 1) := by decide +kernel
theorem dL_473 : decode code 473 = .ok (.iconst 1, 1) := by decide +kernel
theorem dL_474 : decode code 474 = .ok (.iadd, 1) := by decide +kernel
theorem dL_475 : decode code 475 = .ok (.iaload, 1) := by decide +kernel
theorem dL_476 : decode code 476 = .ok (.aload_n 0, 1) := by decide +kernel
theorem dL_477 : decode code 477 = .ok (.iload_n 3, 1) := by decide +kernel
theorem dL_478 : decode code 478 = .ok (.iconst 2, 1) := by decide +kernel
theorem dL_479 : decode code 479 = .ok (.iadd, 1) := by decide +kernel
theorem dL_480 : decode code 480 = .ok (.iaload, 1) := by decide +kernel
theorem dL_481 : decode code 481 = .ok (.invokevirtual 75, 3) := by decide +kernel
theorem dL_484 : decode code 484 = .ok (.if_icmp .eq 510, 3) := by decide +kernel
theorem dL_487 : decode code 487 = .ok (.iconst 0, 1) := by decide +kernel
theorem dL_488 : decode code 488 = .ok (.ireturn, 1) := by decide +kernel
theorem dL_489 : decode code 489 = .ok (.aload_n 1, 1) := by decide +kernel
theorem dL_490 : decode code 490 = .ok (.aload_n 0, 1) := by decide +kernel
theorem dL_491 : decode code 491 = .ok (.iload_n 3, 1) := by decide +kernel
theorem dL_492 : decode code 492 = .ok (.iconst 1, 1) := by decide +kernel
theorem dL_493 : decode code 493 = .ok (.iadd, 1) := by decide +kernel
theorem dL_494 : decode code 494 = .ok (.iaload, 1) := by decide +kernel
theorem dL_495 : decode code 495 = .ok (.aload_n 0, 1) := by decide +kernel
theorem dL_496 : decode code 496 = .ok (.iload_n 3, 1) := by decide +kernel
theorem dL_497 : decode code 497 = .ok (.iconst 2, 1) := by decide +kernel
theorem dL_498 : decode code 498 = .ok (.iadd, 1) := by decide +kernel
theorem dL_499 : decode code 499 = .ok (.iaload, 1) := by decide +kernel
theorem dL_500 : decode code 500 = .ok (.aload_n 0, 1) := by decide +kernel
theorem dL_501 : decode code 501 = .ok (.iload_n 3, 1) := by decide +kernel
theorem dL_502 : decode code 502 = .ok (.iconst 3, 1) := by decide +kernel
theorem dL_503 : decode code 503 = .ok (.iadd, 1) := by decide +kernel
theorem dL_504 : decode code 504 = .ok (.iaload, 1) := by decide +kernel
theorem dL_505 : decode code 505 = .ok (.invokevirtual 76, 3) := by decide +kernel
theorem dL_508 : decode code 508 = .ok (.aload_n 2, 1) := by decide +kernel
theorem dL_509 : decode code 509 = .ok (.aload_n 0, 1) := by decide +kernel
theorem dL_510 : decode code 510 = .ok (.iload_n 3, 1) := by decide +kernel
theorem dL_511 : decode code 511 = .ok (.iconst 1, 1) := by decide +kernel
theorem dL_512 : decode code 512 = .ok (.iadd, 1) := by decide +kernel
theorem dL_513 : decode code 513 = .ok (.iaload, 1) := by decide +kernel
theorem dL_514 : decode code 514 = .ok (.aload_n 0, 1) := by decide +kernel
theorem dL_515 : decode code 515 = .ok (.iload_n 3, 1) := by decide +kernel
theorem dL_516 : decode code 516 = .ok (.iconst 2, 1) := by decide +kernel
theorem dL_517 : decode code 517 = .ok (.iadd, 1) := by decide +kernel
theorem dL_518 : decode code 518 = .ok (.iaload, 1) := by decide +kernel
theorem dL_519 : decode code 519 = .ok (.aload_n 0, 1) := by decide +kernel
theorem dL_520 : decode code 520 = .ok (.iload_n 3, 1) := by decide +kernel
theorem dL_521 : decode code 521 = .ok (.iconst 3, 1) := by decide +kernel
theorem dL_522 : decode code 522 = .ok (.iadd, 1) := by decide +kernel
theorem dL_523 : decode code 523 = .ok (.iaload, 1) := by decide +kernel
theorem dL_524 : decode code 524 = .ok (.invokevirtual 80, 3) := by decide +kernel
theorem dL_527 : decode code 527 = .ok (.if_icmp .eq 467, 3) := by decide +kernel
theorem dL_530 : decode code 530 = .ok (.iconst 0, 1) := by decide +kernel
theorem dL_531 : decode code 531 = .ok (.ireturn, 1) := by decide +kernel
theorem dL_532 : decode code 532 = .ok (.aload_n 1, 1) := by decide +kernel
theorem dL_533 : decode code 533 = .ok (.aload_n 0, 1) := by decide +kernel
theorem dL_534 : decode code 534 = .ok (.iload_n 3, 1) := by decide +kernel
theorem dL_535 : decode code 535 = .ok (.iconst 1, 1) := by decide +kernel
theorem dL_536 : decode code 536 = .ok (.iadd, 1) := by decide +kernel
theorem dL_537 : decode code 537 = .ok (.iaload, 1) := by decide +kernel
theorem dL_538 : decode code 538 = .ok (.invokevirtual 81, 3) := by decide +kernel
theorem dL_541 : decode code 541 = .ok (.aload_n 2, 1) := by decide +kernel
theorem dL_542 : decode code 542 = .ok (.aload_n 0, 1) := by decide +kernel
theorem dL_543 : decode code 543 = .ok (.iload_n 3, 1) := by decide +kernel
theorem dL_544 : decode code 544 = .ok (.iconst 1, 1) := by decide +kernel
theorem dL_545 : decode code 545 = .ok (.iadd, 1) := by decide +kernel
theorem dL_546 : decode code 546 = .ok (.iaload, 1) := by decide +kernel
theorem dL_547 : decode code 547 = .ok (.invokevirtual 84, 3) := by decide +kernel
theorem dL_550 : decode code 550 = .ok (.if_icmp .eq 444, 3) := by decide +kernel
theorem dL_553 : decode code 553 = .ok (.iconst 0, 1) := by decide +kernel
theorem dL_554 : decode code 554 = .ok (.ireturn, 1) := by decide +kernel
theorem dL_555 : decode code 555 = .ok (.aload_n 1, 1) := by decide +kernel
theorem dL_556 : decode code 556 = .ok (.aload_n 0, 1) := by decide +kernel
theorem dL_557 : decode code 557 = .ok (.iload_n 3, 1) := by decide +kernel
theorem dL_558 : decode code 558 = .ok (.iconst 1, 1) := by decide +kernel
theorem dL_559 : decode code 559 = .ok (.iadd, 1) := by decide +kernel
theorem dL_560 : decode code 560 = .ok (.iaload, 1) := by decide +kernel
theorem dL_561 : decode code 561 = .ok (.aload_n 0, 1) := by decide +kernel
theorem dL_562 : decode code 562 = .ok (.iload_n 3, 1) := by decide +kernel
theorem dL_563 : decode code 563 = .ok (.iconst 2, 1) := by decide +kernel
theorem dL_564 : decode code 564 = .ok (.iadd, 1) := by decide +kernel
theorem dL_565 : decode code 565 = .ok (.iaload, 1) := by decide +kernel
theorem dL_566 : decode code 566 = .ok (.i2l, 1) := by decide +kernel
theorem dL_567 : decode code 567 = .ok (.bipush 32, 2) := by decide +kernel
theorem dL_569 : decode code 569 = .ok (.lshl, 1) := by decide +kernel
theorem dL_570 : decode code 570 = .ok (.aload_n 0, 1) := by decide +kernel
theorem dL_571 : decode code 571 = .ok (.iload_n 3, 1) := by decide +kernel
theorem dL_572 : decode code 572 = .ok (.iconst 3, 1) := by decide +kernel
theorem dL_573 : decode code 573 = .ok (.iadd, 1) := by decide +kernel
theorem dL_574 : decode code 574 = .ok (.iaload, 1) := by decide +kernel
theorem dL_575 : decode code 575 = .ok (.i2l, 1) := by decide +kernel
theorem dL_576 : decode code 576 = .ok (.ldc2_w 85, 3) := by decide +kernel
theorem dL_579 : decode code 579 = .ok (.land, 1) := by decide +kernel
theorem dL_580 : decode code 580 = .ok (.lor, 1) := by decide +kernel
theorem dL_581 : decode code 581 = .ok (.invokevirtual 87, 3) := by decide +kernel
theorem dL_584 : decode code 584 = .ok (.aload_n 2, 1) := by decide +kernel
theorem dL_585 : decode code 585 = .ok (.aload_n 0, 1) := by decide +kernel
theorem dL_586 : decode code 586 = .ok (.iload_n 3, 1) := by decide +kernel
theorem dL_587 : decode code 587 = .ok (.iconst 1, 1) := by decide +kernel
theorem dL_588 : decode code 588 = .ok (.iadd, 1) := by decide +kernel
theorem dL_589 : decode code 589 = .ok (.iaload, 1) := by decide +kernel
theorem dL_590 : decode code 590 = .ok (.aload_n 0, 1) := by decide +kernel
theorem dL_591 : decode code 591 = .ok (.iload_n 3, 1) := by decide +kernel
theorem dL_592 : decode code 592 = .ok (.iconst 2, 1) := by decide +kernel
theorem dL_593 : decode code 593 = .ok (.iadd, 1) := by decide +kernel
theorem dL_594 : decode code 594 = .ok (.iaload, 1) := by decide +kernel
theorem dL_595 : decode code 595 = .ok (.i2l, 1) := by decide +kernel
theorem dL_596 : decode code 596 = .ok (.bipush 32, 2) := by decide +kernel
theorem dL_598 : decode code 598 = .ok (.lshl, 1) := by decide +kernel
theorem dL_599 : decode code 599 = .ok (.aload_n 0, 1) := by decide +kernel
theorem dL_600 : decode code 600 = .ok (.iload_n 3, 1) := by decide +kernel
theorem dL_601 : decode code 601 = .ok (.iconst 3, 1) := by decide +kernel
theorem dL_602 : decode code 602 = .ok (.iadd, 1) := by decide +kernel
theorem dL_603 : decode code 603 = .ok (.iaload, 1) := by decide +kernel
theorem dL_604 : decode code 604 = .ok (.i2l, 1) := by decide +kernel
theorem dL_605 : decode code 605 = .ok (.ldc2_w 85, 3) := by decide +kernel
theorem dL_608 : decode code 608 = .ok (.land, 1) := by decide +kernel
theorem dL_609 : decode code 609 = .ok (.lor, 1) := by decide +kernel
theorem dL_610 : decode code 610 = .ok (.invokevirtual 91, 3) := by decide +kernel
theorem dL_613 : decode code 613 = .ok (.if_icmp .eq 381, 3) := by decide +kernel
theorem dL_616 : decode code 616 = .ok (.iconst 0, 1) := by decide +kernel
theorem dL_617 : decode code 617 = .ok (.ireturn, 1) := by decide +kernel
theorem dL_618 : decode code 618 = .ok (.aload_n 1, 1) := by decide +kernel
theorem dL_619 : decode code 619 = .ok (.aload_n 0, 1) := by decide +kernel
theorem dL_620 : decode code 620 = .ok (.iload_n 3, 1) := by decide +kernel
theorem dL_621 : decode code 621 = .ok (.iconst 1, 1) := by decide +kernel
theorem dL_622 : decode code 622 = .ok (.iadd, 1) := by decide +kernel
theorem dL_623 : decode code 623 = .ok (.iaload, 1) := by decide +kernel
theorem dL_624 : decode code 624 = .ok (.aload_n 0, 1) := by decide +kernel
theorem dL_625 : decode code 625 = .ok (.iload_n 3, 1) := by decide +kernel
theorem dL_626 : decode code 626 = .ok (.iconst 2, 1) := by decide +kernel
theorem dL_627 : decode code 627 = .ok (.iadd, 1) := by decide +kernel
theorem dL_628 : decode code 628 = .ok (.iaload, 1) := by decide +kernel
theorem dL_629 : decode code 629 = .ok (.invokevirtual 92, 3) := by decide +kernel
theorem dL_632 : decode code 632 = .ok (.aload_n 2, 1) := by decide +kernel
theorem dL_633 : decode code 633 = .ok (.aload_n 0, 1) := by decide +kernel
theorem dL_634 : decode code 634 = .ok (.iload_n 3, 1) := by decide +kernel
theorem dL_635 : decode code 635 = .ok (.iconst 1, 1) := by decide +kernel
theorem dL_636 : decode code 636 = .ok (.iadd, 1) := by decide +kernel
theorem dL_637 : decode code 637 = .ok (.iaload, 1) := by decide +kernel
theorem dL_638 : decode code 638 = .ok (.aload_n 0, 1) := by decide +kernel
theorem dL_639 : decode code 639 = .ok (.iload_n 3, 1) := by decide +kernel
theorem dL_640 : decode code 640 = .ok (.iconst 2, 1) := by decide +kernel
theorem dL_641 : decode code 641 = .ok (.iadd, 1) := by decide +kernel
theorem dL_642 : decode code 642 = .ok (.iaload, 1) := by decide +kernel
theorem dL_643 : decode code 643 = .ok (.invokevirtual 95, 3) := by decide +kernel
theorem dL_646 : decode code 646 = .ok (.if_icmp .eq 348, 3) := by decide +kernel
theorem dL_649 : decode code 649 = .ok (.iconst 0, 1) := by decide +kernel
theorem dL_650 : decode code 650 = .ok (.ireturn, 1) := by decide +kernel
theorem dL_651 : decode code 651 = .ok (.aload_n 1, 1) := by decide +kernel
theorem dL_652 : decode code 652 = .ok (.invokevirtual 96, 3) := by decide +kernel
theorem dL_655 : decode code 655 = .ok (.aload_n 2, 1) := by decide +kernel
theorem dL_656 : decode code 656 = .ok (.invokevirtual 99, 3) := by decide +kernel
theorem dL_659 : decode code 659 = .ok (.if_icmp .eq 335, 3) := by decide +kernel
theorem dL_662 : decode code 662 = .ok (.iconst 0, 1) := by decide +kernel
theorem dL_663 : decode code 663 = .ok (.ireturn, 1) := by decide +kernel
theorem dL_664 : decode code 664 = .ok (.aload_n 1, 1) := by decide +kernel
theorem dL_665 : decode code 665 = .ok (.aload_n 0, 1) := by decide +kernel
theorem dL_666 : decode code 666 = .ok (.iload_n 3, 1) := by decide +kernel
theorem dL_667 : decode code 667 = .ok (.iconst 1, 1) := by decide +kernel
theorem dL_668 : decode code 668 = .ok (.iadd, 1) := by decide +kernel
theorem dL_669 : decode code 669 = .ok (.iaload, 1) := by decide +kernel
theorem dL_670 : decode code 670 = .ok (.invokevirtual 100, 3) := by decide +kernel
theorem dL_673 : decode code 673 = .ok (.aload_n 2, 1) := by decide +kernel
theorem dL_674 : decode code 674 = .ok (.aload_n 0, 1) := by decide +kernel
theorem dL_675 : decode code 675 = .ok (.iload_n 3, 1) := by decide +kernel
theorem dL_676 : decode code 676 = .ok (.iconst 1, 1) := by decide +kernel
theorem dL_677 : decode code 677 = .ok (.iadd, 1) := by decide +kernel
theorem dL_678 : decode code 678 = .ok (.iaload, 1) := by decide +kernel
theorem dL_679 : decode code 679 = .ok (.invokevirtual 103, 3) := by decide +kernel
theorem dL_682 : decode code 682 = .ok (.if_icmp .eq 312, 3) := by decide +kernel
theorem dL_685 : decode code 685 = .ok (.iconst 0, 1) := by decide +kernel
theorem dL_686 : decode code 686 = .ok (.ireturn, 1) := by decide +kernel
theorem dL_687 : decode code 687 = .ok (.aload_n 1, 1) := by decide +kernel
theorem dL_688 : decode code 688 = .ok (.aload_n 0, 1) := by decide +kernel
theorem dL_689 : decode code 689 = .ok (.iload_n 3, 1) := by decide +kernel
theorem dL_690 : decode code 690 = .ok (.iconst 1, 1) := by decide +kernel
theorem dL_691 : decode code 691 = .ok (.iadd, 1) := by decide +kernel
theorem dL_692 : decode code 692 = .ok (.iaload, 1) := by decide +kernel
theorem dL_693 : decode code 693 = .ok (.aload_n 0, 1) := by decide +kernel
theorem dL_694 : decode code 694 = .ok (.iload_n 3, 1) := by decide +kernel
theorem dL_695 : decode code 695 = .ok (.iconst 2, 1) := by decide +kernel
theorem dL_696 : decode code 696 = .ok (.iadd, 1) := by decide +kernel
theorem dL_697 : decode code 697 = .ok (.iaload, 1) := by decide +kernel
theorem dL_698 : decode code 698 = .ok (.ifCond .eq 7, 3) := by decide +kernel
theorem dL_701 : decode code 701 = .ok (.iconst 1, 1) := by decide +kernel
theorem dL_702 : decode code 702 = .ok (.goto 4, 3) := by decide +kernel
theorem dL_705 : decode code 705 = .ok (.iconst 0, 1) := by decide +kernel
theorem dL_706 : decode code 706 = .ok (.invokevirtual 104, 3) := by decide +kernel
theorem dL_709 : decode code 709 = .ok (.aload_n 2, 1) := by decide +kernel
theorem dL_710 : decode code 710 = .ok (.aload_n 0, 1) := by decide +kernel
theorem dL_711 : decode code 711 = .ok (.iload_n 3, 1) := by decide +kernel
theorem dL_712 : decode code 712 = .ok (.iconst 1, 1) := by decide +kernel
theorem dL_713 : decode code 713 = .ok (.iadd, 1) := by decide +kernel
theorem dL_714 : decode code 714 = .ok (.iaload, 1) := by decide +kernel
theorem dL_715 : decode code 715 = .ok (.aload_n 0, 1) := by decide +kernel
theorem dL_716 : decode code 716 = .ok (.iload_n 3, 1) := by decide +kernel
theorem dL_717 : decode code 717 = .ok (.iconst 2, 1) := by decide +kernel
theorem dL_718 : decode code 718 = .ok (.iadd, 1) := by decide +kernel
theorem dL_719 : decode code 719 = .ok (.iaload, 1) := by decide +kernel
theorem dL_720 : decode code 720 = .ok (.ifCond .eq 7, 3) := by decide +kernel
theorem dL_723 : decode code 723 = .ok (.iconst 1, 1) := by decide +kernel
theorem dL_724 : decode code 724 = .ok (.goto 4, 3) := by decide +kernel
theorem dL_727 : decode code 727 = .ok (.iconst 0, 1) := by decide +kernel
theorem dL_728 : decode code 728 = .ok (.invokevirtual 108, 3) := by decide +kernel
theorem dL_731 : decode code 731 = .ok (.if_icmp .eq 263, 3) := by decide +kernel
theorem dL_734 : decode code 734 = .ok (.iconst 0, 1) := by decide +kernel
theorem dL_735 : decode code 735 = .ok (.ireturn, 1) := by decide +kernel
theorem dL_736 : decode code 736 = .ok (.aload_n 1, 1) := by decide +kernel
theorem dL_737 : decode code 737 = .ok (.aload_n 0, 1) := by decide +kernel
theorem dL_738 : decode code 738 = .ok (.iload_n 3, 1) := by decide +kernel
theorem dL_739 : decode code 739 = .ok (.iconst 1, 1) := by decide +kernel
theorem dL_740 : decode code 740 = .ok (.iadd, 1) := by decide +kernel
theorem dL_741 : decode code 741 = .ok (.iaload, 1) := by decide +kernel
theorem dL_742 : decode code 742 = .ok (.aload_n 0, 1) := by decide +kernel
theorem dL_743 : decode code 743 = .ok (.iload_n 3, 1) := by decide +kernel
theorem dL_744 : decode code 744 = .ok (.iconst 2, 1) := by decide +kernel
theorem dL_745 : decode code 745 = .ok (.iadd, 1) := by decide +kernel
theorem dL_746 : decode code 746 = .ok (.iaload, 1) := by decide +kernel
theorem dL_747 : decode code 747 = .ok (.aload_n 0, 1) := by decide +kernel
theorem dL_748 : decode code 748 = .ok (.iload_n 3, 1) := by decide +kernel
theorem dL_749 : decode code 749 = .ok (.iconst 3, 1) := by decide +kernel
theorem dL_750 : decode code 750 = .ok (.iadd, 1) := by decide +kernel
theorem dL_751 : decode code 751 = .ok (.iaload, 1) := by decide +kernel
theorem dL_752 : decode code 752 = .ok (.invokevirtual 109, 3) := by decide +kernel
theorem dL_755 : decode code 755 = .ok (.aload_n 2, 1) := by decide +kernel
theorem dL_756 : decode code 756 = .ok (.aload_n 0, 1) := by decide +kernel
theorem dL_757 : decode code 757 = .ok (.iload_n 3, 1) := by decide +kernel
theorem dL_758 : decode code 758 = .ok (.iconst 1, 1) := by decide +kernel
theorem dL_759 : decode code 759 = .ok (.iadd, 1) := by decide +kernel
theorem dL_760 : decode code 760 = .ok (.iaload, 1) := by decide +kernel
theorem dL_761 : decode code 761 = .ok (.aload_n 0, 1) := by decide +kernel
theorem dL_762 : decode code 762 = .ok (.iload_n 3, 1) := by decide +kernel
theorem dL_763 : decode code 763 = .ok (.iconst 2, 1) := by decide +kernel
theorem dL_764 : decode code 764 = .ok (.iadd, 1) := by decide +kernel
theorem dL_765 : decode code 765 = .ok (.iaload, 1) := by decide +kernel
theorem dL_766 : decode code 766 = .ok (.aload_n 0, 1) := by decide +kernel
theorem dL_767 : decode code 767 = .ok (.iload_n 3, 1) := by decide +kernel
theorem dL_768 : decode code 768 = .ok (.iconst 3, 1) := by decide +kernel
theorem dL_769 : decode code 769 = .ok (.iadd, 1) := by decide +kernel
theorem dL_770 : decode code 770 = .ok (.iaload, 1) := by decide +kernel
theorem dL_771 : decode code 771 = .ok (.invokevirtual 112, 3) := by decide +kernel
theorem dL_774 : decode code 774 = .ok (.if_icmp .eq 220, 3) := by decide +kernel
theorem dL_777 : decode code 777 = .ok (.iconst 0, 1) := by decide +kernel
theorem dL_778 : decode code 778 = .ok (.ireturn, 1) := by decide +kernel
theorem dL_779 : decode code 779 = .ok (.aload_n 1, 1) := by decide +kernel
theorem dL_780 : decode code 780 = .ok (.aload_n 0, 1) := by decide +kernel
theorem dL_781 : decode code 781 = .ok (.iload_n 3, 1) := by decide +kernel
theorem dL_782 : decode code 782 = .ok (.iconst 1, 1) := by decide +kernel
theorem dL_783 : decode code 783 = .ok (.iadd, 1) := by decide +kernel
theorem dL_784 : decode code 784 = .ok (.iaload, 1) := by decide +kernel
theorem dL_785 : decode code 785 = .ok (.aload_n 0, 1) := by decide +kernel
theorem dL_786 : decode code 786 = .ok (.iload_n 3, 1) := by decide +kernel
theorem dL_787 : decode code 787 = .ok (.iconst 2, 1) := by decide +kernel
theorem dL_788 : decode code 788 = .ok (.iadd, 1) := by decide +kernel
theorem dL_789 : decode code 789 = .ok (.iaload, 1) := by decide +kernel
theorem dL_790 : decode code 790 = .ok (.aload_n 0, 1) := by decide +kernel
theorem dL_791 : decode code 791 = .ok (.iload_n 3, 1) := by decide +kernel
theorem dL_792 : decode code 792 = .ok (.iconst 3, 1) := by decide +kernel
theorem dL_793 : decode code 793 = .ok (.iadd, 1) := by decide +kernel
theorem dL_794 : decode code 794 = .ok (.iaload, 1) := by decide +kernel
theorem dL_795 : decode code 795 = .ok (.aload_n 0, 1) := by decide +kernel
theorem dL_796 : decode code 796 = .ok (.iload_n 3, 1) := by decide +kernel
theorem dL_797 : decode code 797 = .ok (.iconst 4, 1) := by decide +kernel
theorem dL_798 : decode code 798 = .ok (.iadd, 1) := by decide +kernel
theorem dL_799 : decode code 799 = .ok (.iaload, 1) := by decide +kernel
theorem dL_800 : decode code 800 = .ok (.ifCond .eq 7, 3) := by decide +kernel
theorem dL_803 : decode code 803 = .ok (.iconst 1, 1) := by decide +kernel
theorem dL_804 : decode code 804 = .ok (.goto 4, 3) := by decide +kernel
theorem dL_807 : decode code 807 = .ok (.iconst 0, 1) := by decide +kernel
theorem dL_808 : decode code 808 = .ok (.invokevirtual 113, 3) := by decide +kernel
theorem dL_811 : decode code 811 = .ok (.aload_n 2, 1) := by decide +kernel
theorem dL_812 : decode code 812 = .ok (.aload_n 0, 1) := by decide +kernel
theorem dL_813 : decode code 813 = .ok (.iload_n 3, 1) := by decide +kernel
theorem dL_814 : decode code 814 = .ok (.iconst 1, 1) := by decide +kernel
theorem dL_815 : decode code 815 = .ok (.iadd, 1) := by decide +kernel
theorem dL_816 : decode code 816 = .ok (.iaload, 1) := by decide +kernel
theorem dL_817 : decode code 817 = .ok (.aload_n 0, 1) := by decide +kernel
theorem dL_818 : decode code 818 = .ok (.iload_n 3, 1) := by decide +kernel
theorem dL_819 : decode code 819 = .ok (.iconst 2, 1) := by decide +kernel
theorem dL_820 : decode code 820 = .ok (.iadd, 1) := by decide +kernel
theorem dL_821 : decode code 821 = .ok (.iaload, 1) := by decide +kernel
theorem dL_822 : decode code 822 = .ok (.aload_n 0, 1) := by decide +kernel
theorem dL_823 : decode code 823 = .ok (.iload_n 3, 1) := by decide +kernel
theorem dL_824 : decode code 824 = .ok (.iconst 3, 1) := by decide +kernel
theorem dL_825 : decode code 825 = .ok (.iadd, 1) := by decide +kernel
theorem dL_826 : decode code 826 = .ok (.iaload, 1) := by decide +kernel
theorem dL_827 : decode code 827 = .ok (.aload_n 0, 1) := by decide +kernel
theorem dL_828 : decode code 828 = .ok (.iload_n 3, 1) := by decide +kernel
theorem dL_829 : decode code 829 = .ok (.iconst 4, 1) := by decide +kernel
theorem dL_830 : decode code 830 = .ok (.iadd, 1) := by decide +kernel
theorem dL_831 : decode code 831 = .ok (.iaload, 1) := by decide +kernel
theorem dL_832 : decode code 832 = .ok (.ifCond .eq 7, 3) := by decide +kernel
theorem dL_835 : decode code 835 = .ok (.iconst 1, 1) := by decide +kernel
theorem dL_836 : decode code 836 = .ok (.goto 4, 3) := by decide +kernel
theorem dL_839 : decode code 839 = .ok (.iconst 0, 1) := by decide +kernel
theorem dL_840 : decode code 840 = .ok (.invokevirtual 117, 3) := by decide +kernel
theorem dL_843 : decode code 843 = .ok (.if_icmp .eq 151, 3) := by decide +kernel
theorem dL_846 : decode code 846 = .ok (.iconst 0, 1) := by decide +kernel
theorem dL_847 : decode code 847 = .ok (.ireturn, 1) := by decide +kernel
theorem dL_848 : decode code 848 = .ok (.aload_n 1, 1) := by decide +kernel
theorem dL_849 : decode code 849 = .ok (.aload_n 0, 1) := by decide +kernel
theorem dL_850 : decode code 850 = .ok (.iload_n 3, 1) := by decide +kernel
theorem dL_851 : decode code 851 = .ok (.iconst 1, 1) := by decide +kernel
theorem dL_852 : decode code 852 = .ok (.iadd, 1) := by decide +kernel
theorem dL_853 : decode code 853 = .ok (.iaload, 1) := by decide +kernel
theorem dL_854 : decode code 854 = .ok (.i2l, 1) := by decide +kernel
theorem dL_855 : decode code 855 = .ok (.bipush 32, 2) := by decide +kernel
theorem dL_857 : decode code 857 = .ok (.lshl, 1) := by decide +kernel
theorem dL_858 : decode code 858 = .ok (.aload_n 0, 1) := by decide +kernel
theorem dL_859 : decode code 859 = .ok (.iload_n 3, 1) := by decide +kernel
theorem dL_860 : decode code 860 = .ok (.iconst 2, 1) := by decide +kernel
theorem dL_861 : decode code 861 = .ok (.iadd, 1) := by decide +kernel
theorem dL_862 : decode code 862 = .ok (.iaload, 1) := by decide +kernel
theorem dL_863 : decode code 863 = .ok (.i2l, 1) := by decide +kernel
theorem dL_864 : decode code 864 = .ok (.ldc2_w 85, 3) := by decide +kernel
theorem dL_867 : decode code 867 = .ok (.land, 1) := by decide +kernel
theorem dL_868 : decode code 868 = .ok (.lor, 1) := by decide +kernel
theorem dL_869 : decode code 869 = .ok (.invokevirtual 118, 3) := by decide +kernel
theorem dL_872 : decode code 872 = .ok (.aload_n 2, 1) := by decide +kernel
theorem dL_873 : decode code 873 = .ok (.aload_n 0, 1) := by decide +kernel
theorem dL_874 : decode code 874 = .ok (.iload_n 3, 1) := by decide +kernel
theorem dL_875 : decode code 875 = .ok (.iconst 1, 1) := by decide +kernel
theorem dL_876 : decode code 876 = .ok (.iadd, 1) := by decide +kernel
theorem dL_877 : decode code 877 = .ok (.iaload, 1) := by decide +kernel
theorem dL_878 : decode code 878 = .ok (.i2l, 1) := by decide +kernel
theorem dL_879 : decode code 879 = .ok (.bipush 32, 2) := by decide +kernel
theorem dL_881 : decode code 881 = .ok (.lshl, 1) := by decide +kernel
theorem dL_882 : decode code 882 = .ok (.aload_n 0, 1) := by decide +kernel
theorem dL_883 : decode code 883 = .ok (.iload_n 3, 1) := by decide +kernel
theorem dL_884 : decode code 884 = .ok (.iconst 2, 1) := by decide +kernel
theorem dL_885 : decode code 885 = .ok (.iadd, 1) := by decide +kernel
theorem dL_886 : decode code 886 = .ok (.iaload, 1) := by decide +kernel
theorem dL_887 : decode code 887 = .ok (.i2l, 1) := by decide +kernel
theorem dL_888 : decode code 888 = .ok (.ldc2_w 85, 3) := by decide +kernel
theorem dL_891 : decode code 891 = .ok (.land, 1) := by decide +kernel
theorem dL_892 : decode code 892 = .ok (.lor, 1) := by decide +kernel
theorem dL_893 : decode code 893 = .ok (.invokevirtual 122, 3) := by decide +kernel
theorem dL_896 : decode code 896 = .ok (.lcmp, 1) := by decide +kernel
theorem dL_897 : decode code 897 = .ok (.ifCond .eq 97, 3) := by decide +kernel
theorem dL_900 : decode code 900 = .ok (.iconst 0, 1) := by decide +kernel
theorem dL_901 : decode code 901 = .ok (.ireturn, 1) := by decide +kernel
theorem dL_902 : decode code 902 = .ok (.aload_n 1, 1) := by decide +kernel
theorem dL_903 : decode code 903 = .ok (.aload_n 0, 1) := by decide +kernel
theorem dL_904 : decode code 904 = .ok (.iload_n 3, 1) := by decide +kernel
theorem dL_905 : decode code 905 = .ok (.iconst 1, 1) := by decide +kernel
theorem dL_906 : decode code 906 = .ok (.iadd, 1) := by decide +kernel
theorem dL_907 : decode code 907 = .ok (.iaload, 1) := by decide +kernel
theorem dL_908 : decode code 908 = .ok (.invokevirtual 123, 3) := by decide +kernel
theorem dL_911 : decode code 911 = .ok (.aload_n 2, 1) := by decide +kernel
theorem dL_912 : decode code 912 = .ok (.aload_n 0, 1) := by decide +kernel
theorem dL_913 : decode code 913 = .ok (.iload_n 3, 1) := by decide +kernel
theorem dL_914 : decode code 914 = .ok (.iconst 1, 1) := by decide +kernel
theorem dL_915 : decode code 915 = .ok (.iadd, 1) := by decide +kernel
theorem dL_916 : decode code 916 = .ok (.iaload, 1) := by decide +kernel
theorem dL_917 : decode code 917 = .ok (.invokevirtual 126, 3) := by decide +kernel
theorem dL_920 : decode code 920 = .ok (.if_icmp .eq 74, 3) := by decide +kernel
theorem dL_923 : decode code 923 = .ok (.iconst 0, 1) := by decide +kernel
theorem dL_924 : decode code 924 = .ok (.ireturn, 1) := by decide +kernel
theorem dL_925 : decode code 925 = .ok (.aload_n 1, 1) := by decide +kernel
theorem dL_926 : decode code 926 = .ok (.aload_n 0, 1) := by decide +kernel
theorem dL_927 : decode code 927 = .ok (.iload_n 3, 1) := by decide +kernel
theorem dL_928 : decode code 928 = .ok (.iconst 1, 1) := by decide +kernel
theorem dL_929 : decode code 929 = .ok (.iadd, 1) := by decide +kernel
theorem dL_930 : decode code 930 = .ok (.iaload, 1) := by decide +kernel
theorem dL_931 : decode code 931 = .ok (.invokevirtual 127, 3) := by decide +kernel
theorem dL_934 : decode code 934 = .ok (.aload_n 2, 1) := by decide +kernel
theorem dL_935 : decode code 935 = .ok (.aload_n 0, 1) := by decide +kernel
theorem dL_936 : decode code 936 = .ok (.iload_n 3, 1) := by decide +kernel
theorem dL_937 : decode code 937 = .ok (.iconst 1, 1) := by decide +kernel
theorem dL_938 : decode code 938 = .ok (.iadd, 1) := by decide +kernel
theorem dL_939 : decode code 939 = .ok (.iaload, 1) := by decide +kernel
theorem dL_940 : decode code 940 = .ok (.invokevirtual 130, 3) := by decide +kernel
theorem dL_943 : decode code 943 = .ok (.if_icmp .eq 51, 3) := by decide +kernel
theorem dL_946 : decode code 946 = .ok (.iconst 0, 1) := by decide +kernel
theorem dL_947 : decode code 947 = .ok (.ireturn, 1) := by decide +kernel
theorem dL_948 : decode code 948 = .ok (.aload_n 1, 1) := by decide +kernel
theorem dL_949 : decode code 949 = .ok (.aload_n 0, 1) := by decide +kernel
theorem dL_950 : decode code 950 = .ok (.iload_n 3, 1) := by decide +kernel
theorem dL_951 : decode code 951 = .ok (.iconst 1, 1) := by decide +kernel
theorem dL_952 : decode code 952 = .ok (.iadd, 1) := by decide +kernel
theorem dL_953 : decode code 953 = .ok (.iaload, 1) := by decide +kernel
theorem dL_954 : decode code 954 = .ok (.invokevirtual 131, 3) := by decide +kernel
theorem dL_957 : decode code 957 = .ok (.aload_n 2, 1) := by decide +kernel
theorem dL_958 : decode code 958 = .ok (.aload_n 0, 1) := by decide +kernel
theorem dL_959 : decode code 959 = .ok (.iload_n 3, 1) := by decide +kernel
theorem dL_960 : decode code 960 = .ok (.iconst 1, 1) := by decide +kernel
theorem dL_961 : decode code 961 = .ok (.iadd, 1) := by decide +kernel
theorem dL_962 : decode code 962 = .ok (.iaload, 1) := by decide +kernel
theorem dL_963 : decode code 963 = .ok (.invokevirtual 134, 3) := by decide +kernel
theorem dL_966 : decode code 966 = .ok (.if_icmp .eq 28, 3) := by decide +kernel
theorem dL_969 : decode code 969 = .ok (.iconst 0, 1) := by decide +kernel
theorem dL_970 : decode code 970 = .ok (.ireturn, 1) := by decide +kernel
theorem dL_971 : decode code 971 = .ok (.aload_n 1, 1) := by decide +kernel
theorem dL_972 : decode code 972 = .ok (.aload_n 0, 1) := by decide +kernel
theorem dL_973 : decode code 973 = .ok (.iload_n 3, 1) := by decide +kernel
theorem dL_974 : decode code 974 = .ok (.iconst 1, 1) := by decide +kernel
theorem dL_975 : decode code 975 = .ok (.iadd, 1) := by decide +kernel
theorem dL_976 : decode code 976 = .ok (.iaload, 1) := by decide +kernel
theorem dL_977 : decode code 977 = .ok (.invokevirtual 135, 3) := by decide +kernel
theorem dL_980 : decode code 980 = .ok (.aload_n 2, 1) := by decide +kernel
theorem dL_981 : decode code 981 = .ok (.aload_n 0, 1) := by decide +kernel
theorem dL_982 : decode code 982 = .ok (.iload_n 3, 1) := by decide +kernel
theorem dL_983 : decode code 983 = .ok (.iconst 1, 1) := by decide +kernel
theorem dL_984 : decode code 984 = .ok (.iadd, 1) := by decide +kernel
theorem dL_985 : decode code 985 = .ok (.iaload, 1) := by decide +kernel
theorem dL_986 : decode code 986 = .ok (.invokevirtual 138, 3) := by decide +kernel
theorem dL_989 : decode code 989 = .ok (.if_icmp .eq 5, 3) := by decide +kernel
theorem dL_992 : decode code 992 = .ok (.iconst 0, 1) := by decide +kernel
theorem dL_993 : decode code 993 = .ok (.ireturn, 1) := by decide +kernel
theorem dL_994 : decode code 994 = .ok (.iinc 3 5, 3) := by decide +kernel
theorem dL_997 : decode code 997 = .ok (.goto (-979), 3) := by decide +kernel
theorem dL_1000 : decode code 1000 = .ok (.iconst 1, 1) := by decide +kernel
theorem dL_1001 : decode code 1001 = .ok (.ireturn, 1) := by decide +kernel
