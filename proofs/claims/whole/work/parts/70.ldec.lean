/-! the law's bytes; written by wip/whole/lawgen.py -/
theorem dL_law_0 : decode code 0 = .ok (.new 7, 3) := by decide +kernel
theorem dL_law_3 : decode code 3 = .ok (.dup, 1) := by decide +kernel
theorem dL_law_4 : decode code 4 = .ok (.invokespecial 9, 3) := by decide +kernel
theorem dL_law_7 : decode code 7 = .ok (.astore_n 1, 1) := by decide +kernel
theorem dL_law_8 : decode code 8 = .ok (.new 10, 3) := by decide +kernel
theorem dL_law_11 : decode code 11 = .ok (.dup, 1) := by decide +kernel
theorem dL_law_12 : decode code 12 = .ok (.invokespecial 12, 3) := by decide +kernel
theorem dL_law_15 : decode code 15 = .ok (.astore_n 2, 1) := by decide +kernel
theorem dL_law_16 : decode code 16 = .ok (.iconst 0, 1) := by decide +kernel
theorem dL_law_17 : decode code 17 = .ok (.istore_n 3, 1) := by decide +kernel
theorem dL_law_18 : decode code 18 = .ok (.iload_n 3, 1) := by decide +kernel
theorem dL_law_19 : decode code 19 = .ok (.aload_n 0, 1) := by decide +kernel
theorem dL_law_20 : decode code 20 = .ok (.arraylength, 1) := by decide +kernel
theorem dL_law_21 : decode code 21 = .ok (.bipush 6, 2) := by decide +kernel
theorem dL_law_23 : decode code 23 = .ok (.isub, 1) := by decide +kernel
theorem dL_law_24 : decode code 24 = .ok (.if_icmp .gt 1291, 3) := by decide +kernel
theorem dL_law_27 : decode code 27 = .ok (.aload_n 0, 1) := by decide +kernel
theorem dL_law_28 : decode code 28 = .ok (.iload_n 3, 1) := by decide +kernel
theorem dL_law_29 : decode code 29 = .ok (.iaload, 1) := by decide +kernel
theorem dL_law_30 : decode code 30 = .ok (.bipush 63, 2) := by decide +kernel
theorem dL_law_32 : decode code 32 = .ok (.iand, 1) := by decide +kernel
theorem dL_law_33 : decode code 33 = .ok (.tableswitch 1276 0 36 #[163, 196, 219, 242, 265, 298, 331, 374, 387, 410, 453, 496, 529, 562, 585, 608, 621, 634, 657, 680, 703, 736, 759, 802, 815, 828, 861, 894, 938, 981, 1024, 1047, 1100, 1143, 1206, 1239, 1262], 163) := by decide +kernel
theorem dL_law_196 : decode code 196 = .ok (.aload_n 1, 1) := by decide +kernel
theorem dL_law_197 : decode code 197 = .ok (.aload_n 0, 1) := by decide +kernel
theorem dL_law_198 : decode code 198 = .ok (.iload_n 3, 1) := by decide +kernel
theorem dL_law_199 : decode code 199 = .ok (.iconst 1, 1) := by decide +kernel
theorem dL_law_200 : decode code 200 = .ok (.iadd, 1) := by decide +kernel
theorem dL_law_201 : decode code 201 = .ok (.iaload, 1) := by decide +kernel
theorem dL_law_202 : decode code 202 = .ok (.aload_n 0, 1) := by decide +kernel
theorem dL_law_203 : decode code 203 = .ok (.iload_n 3, 1) := by decide +kernel
theorem dL_law_204 : decode code 204 = .ok (.iconst 2, 1) := by decide +kernel
theorem dL_law_205 : decode code 205 = .ok (.iadd, 1) := by decide +kernel
theorem dL_law_206 : decode code 206 = .ok (.iaload, 1) := by decide +kernel
theorem dL_law_207 : decode code 207 = .ok (.invokevirtual 13, 3) := by decide +kernel
theorem dL_law_210 : decode code 210 = .ok (.aload_n 2, 1) := by decide +kernel
theorem dL_law_211 : decode code 211 = .ok (.aload_n 0, 1) := by decide +kernel
theorem dL_law_212 : decode code 212 = .ok (.iload_n 3, 1) := by decide +kernel
theorem dL_law_213 : decode code 213 = .ok (.iconst 1, 1) := by decide +kernel
theorem dL_law_214 : decode code 214 = .ok (.iadd, 1) := by decide +kernel
theorem dL_law_215 : decode code 215 = .ok (.iaload, 1) := by decide +kernel
theorem dL_law_216 : decode code 216 = .ok (.aload_n 0, 1) := by decide +kernel
theorem dL_law_217 : decode code 217 = .ok (.iload_n 3, 1) := by decide +kernel
theorem dL_law_218 : decode code 218 = .ok (.iconst 2, 1) := by decide +kernel
theorem dL_law_219 : decode code 219 = .ok (.iadd, 1) := by decide +kernel
theorem dL_law_220 : decode code 220 = .ok (.iaload, 1) := by decide +kernel
theorem dL_law_221 : decode code 221 = .ok (.invokevirtual 17, 3) := by decide +kernel
theorem dL_law_224 : decode code 224 = .ok (.if_icmp .eq 1085, 3) := by decide +kernel
theorem dL_law_227 : decode code 227 = .ok (.iconst 0, 1) := by decide +kernel
theorem dL_law_228 : decode code 228 = .ok (.ireturn, 1) := by decide +kernel
theorem dL_law_229 : decode code 229 = .ok (.aload_n 1, 1) := by decide +kernel
theorem dL_law_230 : decode code 230 = .ok (.aload_n 0, 1) := by decide +kernel
theorem dL_law_231 : decode code 231 = .ok (.iload_n 3, 1) := by decide +kernel
theorem dL_law_232 : decode code 232 = .ok (.iconst 1, 1) := by decide +kernel
theorem dL_law_233 : decode code 233 = .ok (.iadd, 1) := by decide +kernel
theorem dL_law_234 : decode code 234 = .ok (.iaload, 1) := by decide +kernel
theorem dL_law_235 : decode code 235 = .ok (.invokevirtual 18, 3) := by decide +kernel
theorem dL_law_238 : decode code 238 = .ok (.aload_n 2, 1) := by decide +kernel
theorem dL_law_239 : decode code 239 = .ok (.aload_n 0, 1) := by decide +kernel
theorem dL_law_240 : decode code 240 = .ok (.iload_n 3, 1) := by decide +kernel
theorem dL_law_241 : decode code 241 = .ok (.iconst 1, 1) := by decide +kernel
theorem dL_law_242 : decode code 242 = .ok (.iadd, 1) := by decide +kernel
theorem dL_law_243 : decode code 243 = .ok (.iaload, 1) := by decide +kernel
theorem dL_law_244 : decode code 244 = .ok (.invokevirtual 22, 3) := by decide +kernel
theorem dL_law_247 : decode code 247 = .ok (.if_icmp .eq 1062, 3) := by decide +kernel
theorem dL_law_250 : decode code 250 = .ok (.iconst 0, 1) := by decide +kernel
theorem dL_law_251 : decode code 251 = .ok (.ireturn, 1) := by decide +kernel
theorem dL_law_252 : decode code 252 = .ok (.aload_n 1, 1) := by decide +kernel
theorem dL_law_253 : decode code 253 = .ok (.aload_n 0, 1) := by decide +kernel
theorem dL_law_254 : decode code 254 = .ok (.iload_n 3, 1) := by decide +kernel
theorem dL_law_255 : decode code 255 = .ok (.iconst 1, 1) := by decide +kernel
theorem dL_law_256 : decode code 256 = .ok (.iadd, 1) := by decide +kernel
theorem dL_law_257 : decode code 257 = .ok (.iaload, 1) := by decide +kernel
theorem dL_law_258 : decode code 258 = .ok (.invokevirtual 23, 3) := by decide +kernel
theorem dL_law_261 : decode code 261 = .ok (.aload_n 2, 1) := by decide +kernel
theorem dL_law_262 : decode code 262 = .ok (.aload_n 0, 1) := by decide +kernel
theorem dL_law_263 : decode code 263 = .ok (.iload_n 3, 1) := by decide +kernel
theorem dL_law_264 : decode code 264 = .ok (.iconst 1, 1) := by decide +kernel
theorem dL_law_265 : decode code 265 = .ok (.iadd, 1) := by decide +kernel
theorem dL_law_266 : decode code 266 = .ok (.iaload, 1) := by decide +kernel
theorem dL_law_267 : decode code 267 = .ok (.invokevirtual 26, 3) := by decide +kernel
theorem dL_law_270 : decode code 270 = .ok (.if_icmp .eq 1039, 3) := by decide +kernel
theorem dL_law_273 : decode code 273 = .ok (.iconst 0, 1) := by decide +kernel
theorem dL_law_274 : decode code 274 = .ok (.ireturn, 1) := by decide +kernel
theorem dL_law_275 : decode code 275 = .ok (.aload_n 1, 1) := by decide +kernel
theorem dL_law_276 : decode code 276 = .ok (.aload_n 0, 1) := by decide +kernel
theorem dL_law_277 : decode code 277 = .ok (.iload_n 3, 1) := by decide +kernel
theorem dL_law_278 : decode code 278 = .ok (.iconst 1, 1) := by decide +kernel
theorem dL_law_279 : decode code 279 = .ok (.iadd, 1) := by decide +kernel
theorem dL_law_280 : decode code 280 = .ok (.iaload, 1) := by decide +kernel
theorem dL_law_281 : decode code 281 = .ok (.invokevirtual 27, 3) := by decide +kernel
theorem dL_law_284 : decode code 284 = .ok (.aload_n 2, 1) := by decide +kernel
theorem dL_law_285 : decode code 285 = .ok (.aload_n 0, 1) := by decide +kernel
theorem dL_law_286 : decode code 286 = .ok (.iload_n 3, 1) := by decide +kernel
theorem dL_law_287 : decode code 287 = .ok (.iconst 1, 1) := by decide +kernel
theorem dL_law_288 : decode code 288 = .ok (.iadd, 1) := by decide +kernel
theorem dL_law_289 : decode code 289 = .ok (.iaload, 1) := by decide +kernel
theorem dL_law_290 : decode code 290 = .ok (.invokevirtual 30, 3) := by decide +kernel
theorem dL_law_293 : decode code 293 = .ok (.if_icmp .eq 1016, 3) := by decide +kernel
theorem dL_law_296 : decode code 296 = .ok (.iconst 0, 1) := by decide +kernel
theorem dL_law_297 : decode code 297 = .ok (.ireturn, 1) := by decide +kernel
theorem dL_law_298 : decode code 298 = .ok (.aload_n 1, 1) := by decide +kernel
theorem dL_law_299 : decode code 299 = .ok (.aload_n 0, 1) := by decide +kernel
theorem dL_law_300 : decode code 300 = .ok (.iload_n 3, 1) := by decide +kernel
theorem dL_law_301 : decode code 301 = .ok (.iconst 1, 1) := by decide +kernel
theorem dL_law_302 : decode code 302 = .ok (.iadd, 1) := by decide +kernel
theorem dL_law_303 : decode code 303 = .ok (.iaload, 1) := by decide +kernel
theorem dL_law_304 : decode code 304 = .ok (.aload_n 0, 1) := by decide +kernel
theorem dL_law_305 : decode code 305 = .ok (.iload_n 3, 1) := by decide +kernel
theorem dL_law_306 : decode code 306 = .ok (.iconst 2, 1) := by decide +kernel
theorem dL_law_307 : decode code 307 = .ok (.iadd, 1) := by decide +kernel
theorem dL_law_308 : decode code 308 = .ok (.iaload, 1) := by decide +kernel
theorem dL_law_309 : decode code 309 = .ok (.invokevirtual 31, 3) := by decide +kernel
theorem dL_law_312 : decode code 312 = .ok (.aload_n 2, 1) := by decide +kernel
theorem dL_law_313 : decode code 313 = .ok (.aload_n 0, 1) := by decide +kernel
theorem dL_law_314 : decode code 314 = .ok (.iload_n 3, 1) := by decide +kernel
theorem dL_law_315 : decode code 315 = .ok (.iconst 1, 1) := by decide +kernel
theorem dL_law_316 : decode code 316 = .ok (.iadd, 1) := by decide +kernel
theorem dL_law_317 : decode code 317 = .ok (.iaload, 1) := by decide +kernel
theorem dL_law_318 : decode code 318 = .ok (.aload_n 0, 1) := by decide +kernel
theorem dL_law_319 : decode code 319 = .ok (.iload_n 3, 1) := by decide +kernel
theorem dL_law_320 : decode code 320 = .ok (.iconst 2, 1) := by decide +kernel
theorem dL_law_321 : decode code 321 = .ok (.iadd, 1) := by decide +kernel
theorem dL_law_322 : decode code 322 = .ok (.iaload, 1) := by decide +kernel
theorem dL_law_323 : decode code 323 = .ok (.invokevirtual 34, 3) := by decide +kernel
theorem dL_law_326 : decode code 326 = .ok (.if_icmp .eq 983, 3) := by decide +kernel
theorem dL_law_329 : decode code 329 = .ok (.iconst 0, 1) := by decide +kernel
theorem dL_law_330 : decode code 330 = .ok (.ireturn, 1) := by decide +kernel
theorem dL_law_331 : decode code 331 = .ok (.aload_n 1, 1) := by decide +kernel
theorem dL_law_332 : decode code 332 = .ok (.aload_n 0, 1) := by decide +kernel
theorem dL_law_333 : decode code 333 = .ok (.iload_n 3, 1) := by decide +kernel
theorem dL_law_334 : decode code 334 = .ok (.iconst 1, 1) := by decide +kernel
theorem dL_law_335 : decode code 335 = .ok (.iadd, 1) := by decide +kernel
theorem dL_law_336 : decode code 336 = .ok (.iaload, 1) := by decide +kernel
theorem dL_law_337 : decode code 337 = .ok (.aload_n 0, 1) := by decide +kernel
theorem dL_law_338 : decode code 338 = .ok (.iload_n 3, 1) := by decide +kernel
theorem dL_law_339 : decode code 339 = .ok (.iconst 2, 1) := by decide +kernel
theorem dL_law_340 : decode code 340 = .ok (.iadd, 1) := by decide +kernel
theorem dL_law_341 : decode code 341 = .ok (.iaload, 1) := by decide +kernel
theorem dL_law_342 : decode code 342 = .ok (.invokevirtual 35, 3) := by decide +kernel
theorem dL_law_345 : decode code 345 = .ok (.aload_n 2, 1) := by decide +kernel
theorem dL_law_346 : decode code 346 = .ok (.aload_n 0, 1) := by decide +kernel
theorem dL_law_347 : decode code 347 = .ok (.iload_n 3, 1) := by decide +kernel
theorem dL_law_348 : decode code 348 = .ok (.iconst 1, 1) := by decide +kernel
theorem dL_law_349 : decode code 349 = .ok (.iadd, 1) := by decide +kernel
theorem dL_law_350 : decode code 350 = .ok (.iaload, 1) := by decide +kernel
theorem dL_law_351 : decode code 351 = .ok (.aload_n 0, 1) := by decide +kernel
theorem dL_law_352 : decode code 352 = .ok (.iload_n 3, 1) := by decide +kernel
theorem dL_law_353 : decode code 353 = .ok (.iconst 2, 1) := by decide +kernel
theorem dL_law_354 : decode code 354 = .ok (.iadd, 1) := by decide +kernel
theorem dL_law_355 : decode code 355 = .ok (.iaload, 1) := by decide +kernel
theorem dL_law_356 : decode code 356 = .ok (.invokevirtual 38, 3) := by decide +kernel
theorem dL_law_359 : decode code 359 = .ok (.if_icmp .eq 950, 3) := by decide +kernel
theorem dL_law_362 : decode code 362 = .ok (.iconst 0, 1) := by decide +kernel
theorem dL_law_363 : decode code 363 = .ok (.ireturn, 1) := by decide +kernel
theorem dL_law_364 : decode code 364 = .ok (.aload_n 1, 1) := by decide +kernel
theorem dL_law_365 : decode code 365 = .ok (.aload_n 0, 1) := by decide +kernel
theorem dL_law_366 : decode code 366 = .ok (.iload_n 3, 1) := by decide +kernel
theorem dL_law_367 : decode code 367 = .ok (.iconst 1, 1) := by decide +kernel
theorem dL_law_368 : decode code 368 = .ok (.iadd, 1) := by decide +kernel
theorem dL_law_369 : decode code 369 = .ok (.iaload, 1) := by decide +kernel
theorem dL_law_370 : decode code 370 = .ok (.aload_n 0, 1) := by decide +kernel
theorem dL_law_371 : decode code 371 = .ok (.iload_n 3, 1) := by decide +kernel
theorem dL_law_372 : decode code 372 = .ok (.iconst 2, 1) := by decide +kernel
theorem dL_law_373 : decode code 373 = .ok (.iadd, 1) := by decide +kernel
theorem dL_law_374 : decode code 374 = .ok (.iaload, 1) := by decide +kernel
theorem dL_law_375 : decode code 375 = .ok (.aload_n 0, 1) := by decide +kernel
theorem dL_law_376 : decode code 376 = .ok (.iload_n 3, 1) := by decide +kernel
theorem dL_law_377 : decode code 377 = .ok (.iconst 3, 1) := by decide +kernel
theorem dL_law_378 : decode code 378 = .ok (.iadd, 1) := by decide +kernel
theorem dL_law_379 : decode code 379 = .ok (.iaload, 1) := by decide +kernel
theorem dL_law_380 : decode code 380 = .ok (.invokevirtual 39, 3) := by decide +kernel
theorem dL_law_383 : decode code 383 = .ok (.aload_n 2, 1) := by decide +kernel
theorem dL_law_384 : decode code 384 = .ok (.aload_n 0, 1) := by decide +kernel
theorem dL_law_385 : decode code 385 = .ok (.iload_n 3, 1) := by decide +kernel
theorem dL_law_386 : decode code 386 = .ok (.iconst 1, 1) := by decide +kernel
theorem dL_law_387 : decode code 387 = .ok (.iadd, 1) := by decide +kernel
theorem dL_law_388 : decode code 388 = .ok (.iaload, 1) := by decide +kernel
theorem dL_law_389 : decode code 389 = .ok (.aload_n 0, 1) := by decide +kernel
theorem dL_law_390 : decode code 390 = .ok (.iload_n 3, 1) := by decide +kernel
theorem dL_law_391 : decode code 391 = .ok (.iconst 2, 1) := by decide +kernel
theorem dL_law_392 : decode code 392 = .ok (.iadd, 1) := by decide +kernel
theorem dL_law_393 : decode code 393 = .ok (.iaload, 1) := by decide +kernel
theorem dL_law_394 : decode code 394 = .ok (.aload_n 0, 1) := by decide +kernel
theorem dL_law_395 : decode code 395 = .ok (.iload_n 3, 1) := by decide +kernel
theorem dL_law_396 : decode code 396 = .ok (.iconst 3, 1) := by decide +kernel
theorem dL_law_397 : decode code 397 = .ok (.iadd, 1) := by decide +kernel
theorem dL_law_398 : decode code 398 = .ok (.iaload, 1) := by decide +kernel
theorem dL_law_399 : decode code 399 = .ok (.invokevirtual 43, 3) := by decide +kernel
theorem dL_law_402 : decode code 402 = .ok (.if_icmp .eq 907, 3) := by decide +kernel
theorem dL_law_405 : decode code 405 = .ok (.iconst 0, 1) := by decide +kernel
theorem dL_law_406 : decode code 406 = .ok (.ireturn, 1) := by decide +kernel
theorem dL_law_407 : decode code 407 = .ok (.aload_n 1, 1) := by decide +kernel
theorem dL_law_408 : decode code 408 = .ok (.invokevirtual 44, 3) := by decide +kernel
theorem dL_law_411 : decode code 411 = .ok (.aload_n 2, 1) := by decide +kernel
theorem dL_law_412 : decode code 412 = .ok (.invokevirtual 48, 3) := by decide +kernel
theorem dL_law_415 : decode code 415 = .ok (.if_icmp .eq 894, 3) := by decide +kernel
theorem dL_law_418 : decode code 418 = .ok (.iconst 0, 1) := by decide +kernel
theorem dL_law_419 : decode code 419 = .ok (.ireturn, 1) := by decide +kernel
theorem dL_law_420 : decode code 420 = .ok (.aload_n 1, 1) := by decide +kernel
theorem dL_law_421 : decode code 421 = .ok (.aload_n 0, 1) := by decide +kernel
theorem dL_law_422 : decode code 422 = .ok (.iload_n 3, 1) := by decide +kernel
theorem dL_law_423 : decode code 423 = .ok (.iconst 1, 1) := by decide +kernel
theorem dL_law_424 : decode code 424 = .ok (.iadd, 1) := by decide +kernel
theorem dL_law_425 : decode code 425 = .ok (.iaload, 1) := by decide +kernel
theorem dL_law_426 : decode code 426 = .ok (.invokevirtual 49, 3) := by decide +kernel
theorem dL_law_429 : decode code 429 = .ok (.aload_n 2, 1) := by decide +kernel
theorem dL_law_430 : decode code 430 = .ok (.aload_n 0, 1) := by decide +kernel
theorem dL_law_431 : decode code 431 = .ok (.iload_n 3, 1) := by decide +kernel
theorem dL_law_432 : decode code 432 = .ok (.iconst 1, 1) := by decide +kernel
theorem dL_law_433 : decode code 433 = .ok (.iadd, 1) := by decide +kernel
theorem dL_law_434 : decode code 434 = .ok (.iaload, 1) := by decide +kernel
theorem dL_law_435 : decode code 435 = .ok (.invokevirtual 52, 3) := by decide +kernel
theorem dL_law_438 : decode code 438 = .ok (.if_icmp .eq 871, 3) := by decide +kernel
theorem dL_law_441 : decode code 441 = .ok (.iconst 0, 1) := by decide +kernel
theorem dL_law_442 : decode code 442 = .ok (.ireturn, 1) := by decide +kernel
theorem dL_law_443 : decode code 443 = .ok (.aload_n 1, 1) := by decide +kernel
theorem dL_law_444 : decode code 444 = .ok (.aload_n 0, 1) := by decide +kernel
theorem dL_law_445 : decode code 445 = .ok (.iload_n 3, 1) := by decide +kernel
theorem dL_law_446 : decode code 446 = .ok (.iconst 1, 1) := by decide +kernel
theorem dL_law_447 : decode code 447 = .ok (.iadd, 1) := by decide +kernel
theorem dL_law_448 : decode code 448 = .ok (.iaload, 1) := by decide +kernel
theorem dL_law_449 : decode code 449 = .ok (.aload_n 0, 1) := by decide +kernel
theorem dL_law_450 : decode code 450 = .ok (.iload_n 3, 1) := by decide +kernel
theorem dL_law_451 : decode code 451 = .ok (.iconst 2, 1) := by decide +kernel
theorem dL_law_452 : decode code 452 = .ok (.iadd, 1) := by decide +kernel
theorem dL_law_453 : decode code 453 = .ok (.iaload, 1) := by decide +kernel
theorem dL_law_454 : decode code 454 = .ok (.aload_n 0, 1) := by decide +kernel
theorem dL_law_455 : decode code 455 = .ok (.iload_n 3, 1) := by decide +kernel
theorem dL_law_456 : decode code 456 = .ok (.iconst 3, 1) := by decide +kernel
theorem dL_law_457 : decode code 457 = .ok (.iadd, 1) := by decide +kernel
theorem dL_law_458 : decode code 458 = .ok (.iaload, 1) := by decide +kernel
theorem dL_law_459 : decode code 459 = .ok (.invokevirtual 53, 3) := by decide +kernel
theorem dL_law_462 : decode code 462 = .ok (.aload_n 2, 1) := by decide +kernel
theorem dL_law_463 : decode code 463 = .ok (.aload_n 0, 1) := by decide +kernel
theorem dL_law_464 : decode code 464 = .ok (.iload_n 3, 1) := by decide +kernel
theorem dL_law_465 : decode code 465 = .ok (.iconst 1, 1) := by decide +kernel
theorem dL_law_466 : decode code 466 = .ok (.iadd, 1) := by decide +kernel
theorem dL_law_467 : decode code 467 = .ok (.iaload, 1) := by decide +kernel
theorem dL_law_468 : decode code 468 = .ok (.aload_n 0, 1) := by decide +kernel
theorem dL_law_469 : decode code 469 = .ok (.iload_n 3, 1) := by decide +kernel
theorem dL_law_470 : decode code 470 = .ok (.iconst 2, 1) := by decide +kernel
theorem dL_law_471 : decode code 471 = .ok (.iadd, 1) := by decide +kernel
theorem dL_law_472 : decode code 472 = .ok (.iaload, 1) := by decide +kernel
theorem dL_law_473 : decode code 473 = .ok (.aload_n 0, 1) := by decide +kernel
theorem dL_law_474 : decode code 474 = .ok (.iload_n 3, 1) := by decide +kernel
theorem dL_law_475 : decode code 475 = .ok (.iconst 3, 1) := by decide +kernel
theorem dL_law_476 : decode code 476 = .ok (.iadd, 1) := by decide +kernel
theorem dL_law_477 : decode code 477 = .ok (.iaload, 1) := by decide +kernel
theorem dL_law_478 : decode code 478 = .ok (.invokevirtual 56, 3) := by decide +kernel
theorem dL_law_481 : decode code 481 = .ok (.if_icmp .eq 828, 3) := by decide +kernel
theorem dL_law_484 : decode code 484 = .ok (.iconst 0, 1) := by decide +kernel
theorem dL_law_485 : decode code 485 = .ok (.ireturn, 1) := by decide +kernel
theorem dL_law_486 : decode code 486 = .ok (.aload_n 1, 1) := by decide +kernel
theorem dL_law_487 : decode code 487 = .ok (.aload_n 0, 1) := by decide +kernel
theorem dL_law_488 : decode code 488 = .ok (.iload_n 3, 1) := by decide +kernel
theorem dL_law_489 : decode code 489 = .ok (.iconst 1, 1) := by decide +kernel
theorem dL_law_490 : decode code 490 = .ok (.iadd, 1) := by decide +kernel
theorem dL_law_491 : decode code 491 = .ok (.iaload, 1) := by decide +kernel
theorem dL_law_492 : decode code 492 = .ok (.aload_n 0, 1) := by decide +kernel
theorem dL_law_493 : decode code 493 = .ok (.iload_n 3, 1) := by decide +kernel
theorem dL_law_494 : decode code 494 = .ok (.iconst 2, 1) := by decide +kernel
theorem dL_law_495 : decode code 495 = .ok (.iadd, 1) := by decide +kernel
theorem dL_law_496 : decode code 496 = .ok (.iaload, 1) := by decide +kernel
theorem dL_law_497 : decode code 497 = .ok (.aload_n 0, 1) := by decide +kernel
theorem dL_law_498 : decode code 498 = .ok (.iload_n 3, 1) := by decide +kernel
theorem dL_law_499 : decode code 499 = .ok (.iconst 3, 1) := by decide +kernel
theorem dL_law_500 : decode code 500 = .ok (.iadd, 1) := by decide +kernel
theorem dL_law_501 : decode code 501 = .ok (.iaload, 1) := by decide +kernel
theorem dL_law_502 : decode code 502 = .ok (.invokevirtual 57, 3) := by decide +kernel
theorem dL_law_505 : decode code 505 = .ok (.aload_n 2, 1) := by decide +kernel
theorem dL_law_506 : decode code 506 = .ok (.aload_n 0, 1) := by decide +kernel
theorem dL_law_507 : decode code 507 = .ok (.iload_n 3, 1) := by decide +kernel
theorem dL_law_508 : decode code 508 = .ok (.iconst 1, 1) := by decide +kernel
theorem dL_law_509 : decode code 509 = .ok (.iadd, 1) := by decide +kernel
theorem dL_law_510 : decode code 510 = .ok (.iaload, 1) := by decide +kernel
theorem dL_law_511 : decode code 511 = .ok (.aload_n 0, 1) := by decide +kernel
theorem dL_law_512 : decode code 512 = .ok (.iload_n 3, 1) := by decide +kernel
theorem dL_law_513 : decode code 513 = .ok (.iconst 2, 1) := by decide +kernel
theorem dL_law_514 : decode code 514 = .ok (.iadd, 1) := by decide +kernel
theorem dL_law_515 : decode code 515 = .ok (.iaload, 1) := by decide +kernel
theorem dL_law_516 : decode code 516 = .ok (.aload_n 0, 1) := by decide +kernel
theorem dL_law_517 : decode code 517 = .ok (.iload_n 3, 1) := by decide +kernel
theorem dL_law_518 : decode code 518 = .ok (.iconst 3, 1) := by decide +kernel
theorem dL_law_519 : decode code 519 = .ok (.iadd, 1) := by decide +kernel
theorem dL_law_520 : decode code 520 = .ok (.iaload, 1) := by decide +kernel
theorem dL_law_521 : decode code 521 = .ok (.invokevirtual 60, 3) := by decide +kernel
theorem dL_law_524 : decode code 524 = .ok (.if_icmp .eq 785, 3) := by decide +kernel
theorem dL_law_527 : decode code 527 = .ok (.iconst 0, 1) := by decide +kernel
theorem dL_law_528 : decode code 528 = .ok (.ireturn, 1) := by decide +kernel
theorem dL_law_529 : decode code 529 = .ok (.aload_n 1, 1) := by decide +kernel
theorem dL_law_530 : decode code 530 = .ok (.aload_n 0, 1) := by decide +kernel
theorem dL_law_531 : decode code 531 = .ok (.iload_n 3, 1) := by decide +kernel
theorem dL_law_532 : decode code 532 = .ok (.iconst 1, 1) := by decide +kernel
theorem dL_law_533 : decode code 533 = .ok (.iadd, 1) := by decide +kernel
theorem dL_law_534 : decode code 534 = .ok (.iaload, 1) := by decide +kernel
theorem dL_law_535 : decode code 535 = .ok (.aload_n 0, 1) := by decide +kernel
theorem dL_law_536 : decode code 536 = .ok (.iload_n 3, 1) := by decide +kernel
theorem dL_law_537 : decode code 537 = .ok (.iconst 2, 1) := by decide +kernel
theorem dL_law_538 : decode code 538 = .ok (.iadd, 1) := by decide +kernel
theorem dL_law_539 : decode code 539 = .ok (.iaload, 1) := by decide +kernel
theorem dL_law_540 : decode code 540 = .ok (.invokevirtual 61, 3) := by decide +kernel
theorem dL_law_543 : decode code 543 = .ok (.aload_n 2, 1) := by decide +kernel
theorem dL_law_544 : decode code 544 = .ok (.aload_n 0, 1) := by decide +kernel
theorem dL_law_545 : decode code 545 = .ok (.iload_n 3, 1) := by decide +kernel
theorem dL_law_546 : decode code 546 = .ok (.iconst 1, 1) := by decide +kernel
theorem dL_law_547 : decode code 547 = .ok (.iadd, 1) := by decide +kernel
theorem dL_law_548 : decode code 548 = .ok (.iaload, 1) := by decide +kernel
theorem dL_law_549 : decode code 549 = .ok (.aload_n 0, 1) := by decide +kernel
theorem dL_law_550 : decode code 550 = .ok (.iload_n 3, 1) := by decide +kernel
theorem dL_law_551 : decode code 551 = .ok (.iconst 2, 1) := by decide +kernel
theorem dL_law_552 : decode code 552 = .ok (.iadd, 1) := by decide +kernel
theorem dL_law_553 : decode code 553 = .ok (.iaload, 1) := by decide +kernel
theorem dL_law_554 : decode code 554 = .ok (.invokevirtual 64, 3) := by decide +kernel
theorem dL_law_557 : decode code 557 = .ok (.if_icmp .eq 752, 3) := by decide +kernel
theorem dL_law_560 : decode code 560 = .ok (.iconst 0, 1) := by decide +kernel
theorem dL_law_561 : decode code 561 = .ok (.ireturn, 1) := by decide +kernel
theorem dL_law_562 : decode code 562 = .ok (.aload_n 1, 1) := by decide +kernel
theorem dL_law_563 : decode code 563 = .ok (.aload_n 0, 1) := by decide +kernel
theorem dL_law_564 : decode code 564 = .ok (.iload_n 3, 1) := by decide +kernel
theorem dL_law_565 : decode code 565 = .ok (.iconst 1, 1) := by decide +kernel
theorem dL_law_566 : decode code 566 = .ok (.iadd, 1) := by decide +kernel
theorem dL_law_567 : decode code 567 = .ok (.iaload, 1) := by decide +kernel
theorem dL_law_568 : decode code 568 = .ok (.aload_n 0, 1) := by decide +kernel
theorem dL_law_569 : decode code 569 = .ok (.iload_n 3, 1) := by decide +kernel
theorem dL_law_570 : decode code 570 = .ok (.iconst 2, 1) := by decide +kernel
theorem dL_law_571 : decode code 571 = .ok (.iadd, 1) := by decide +kernel
theorem dL_law_572 : decode code 572 = .ok (.iaload, 1) := by decide +kernel
theorem dL_law_573 : decode code 573 = .ok (.invokevirtual 65, 3) := by decide +kernel
theorem dL_law_576 : decode code 576 = .ok (.aload_n 2, 1) := by decide +kernel
theorem dL_law_577 : decode code 577 = .ok (.aload_n 0, 1) := by decide +kernel
theorem dL_law_578 : decode code 578 = .ok (.iload_n 3, 1) := by decide +kernel
theorem dL_law_579 : decode code 579 = .ok (.iconst 1, 1) := by decide +kernel
theorem dL_law_580 : decode code 580 = .ok (.iadd, 1) := by decide +kernel
theorem dL_law_581 : decode code 581 = .ok (.iaload, 1) := by decide +kernel
theorem dL_law_582 : decode code 582 = .ok (.aload_n 0, 1) := by decide +kernel
theorem dL_law_583 : decode code 583 = .ok (.iload_n 3, 1) := by decide +kernel
theorem dL_law_584 : decode code 584 = .ok (.iconst 2, 1) := by decide +kernel
theorem dL_law_585 : decode code 585 = .ok (.iadd, 1) := by decide +kernel
theorem dL_law_586 : decode code 586 = .ok (.iaload, 1) := by decide +kernel
theorem dL_law_587 : decode code 587 = .ok (.invokevirtual 68, 3) := by decide +kernel
theorem dL_law_590 : decode code 590 = .ok (.if_icmp .eq 719, 3) := by decide +kernel
theorem dL_law_593 : decode code 593 = .ok (.iconst 0, 1) := by decide +kernel
theorem dL_law_594 : decode code 594 = .ok (.ireturn, 1) := by decide +kernel
theorem dL_law_595 : decode code 595 = .ok (.aload_n 1, 1) := by decide +kernel
theorem dL_law_596 : decode code 596 = .ok (.aload_n 0, 1) := by decide +kernel
theorem dL_law_597 : decode code 597 = .ok (.iload_n 3, 1) := by decide +kernel
theorem dL_law_598 : decode code 598 = .ok (.iconst 1, 1) := by decide +kernel
theorem dL_law_599 : decode code 599 = .ok (.iadd, 1) := by decide +kernel
theorem dL_law_600 : decode code 600 = .ok (.iaload, 1) := by decide +kernel
theorem dL_law_601 : decode code 601 = .ok (.invokevirtual 69, 3) := by decide +kernel
theorem dL_law_604 : decode code 604 = .ok (.aload_n 2, 1) := by decide +kernel
theorem dL_law_605 : decode code 605 = .ok (.aload_n 0, 1) := by decide +kernel
theorem dL_law_606 : decode code 606 = .ok (.iload_n 3, 1) := by decide +kernel
theorem dL_law_607 : decode code 607 = .ok (.iconst 1, 1) := by decide +kernel
theorem dL_law_608 : decode code 608 = .ok (.iadd, 1) := by decide +kernel
theorem dL_law_609 : decode code 609 = .ok (.iaload, 1) := by decide +kernel
theorem dL_law_610 : decode code 610 = .ok (.invokevirtual 72, 3) := by decide +kernel
theorem dL_law_613 : decode code 613 = .ok (.if_icmp .eq 696, 3) := by decide +kernel
theorem dL_law_616 : decode code 616 = .ok (.iconst 0, 1) := by decide +kernel
theorem dL_law_617 : decode code 617 = .ok (.ireturn, 1) := by decide +kernel
theorem dL_law_618 : decode code 618 = .ok (.aload_n 1, 1) := by decide +kernel
theorem dL_law_619 : decode code 619 = .ok (.aload_n 0, 1) := by decide +kernel
theorem dL_law_620 : decode code 620 = .ok (.iload_n 3, 1) := by decide +kernel
theorem dL_law_621 : decode code 621 = .ok (.iconst 1, 1) := by decide +kernel
theorem dL_law_622 : decode code 622 = .ok (.iadd, 1) := by decide +kernel
theorem dL_law_623 : decode code 623 = .ok (.iaload, 1) := by decide +kernel
theorem dL_law_624 : decode code 624 = .ok (.invokevirtual 73, 3) := by decide +kernel
theorem dL_law_627 : decode code 627 = .ok (.aload_n 2, 1) := by decide +kernel
theorem dL_law_628 : decode code 628 = .ok (.aload_n 0, 1) := by decide +kernel
theorem dL_law_629 : decode code 629 = .ok (.iload_n 3, 1) := by decide +kernel
theorem dL_law_630 : decode code 630 = .ok (.iconst 1, 1) := by decide +kernel
theorem dL_law_631 : decode code 631 = .ok (.iadd, 1) := by decide +kernel
theorem dL_law_632 : decode code 632 = .ok (.iaload, 1) := by decide +kernel
theorem dL_law_633 : decode code 633 = .ok (.invokevirtual 76, 3) := by decide +kernel
theorem dL_law_636 : decode code 636 = .ok (.if_icmp .eq 673, 3) := by decide +kernel
theorem dL_law_639 : decode code 639 = .ok (.iconst 0, 1) := by decide +kernel
theorem dL_law_640 : decode code 640 = .ok (.ireturn, 1) := by decide +kernel
theorem dL_law_641 : decode code 641 = .ok (.aload_n 1, 1) := by decide +kernel
theorem dL_law_642 : decode code 642 = .ok (.invokevirtual 77, 3) := by decide +kernel
theorem dL_law_645 : decode code 645 = .ok (.aload_n 2, 1) := by decide +kernel
theorem dL_law_646 : decode code 646 = .ok (.invokevirtual 80, 3) := by decide +kernel
theorem dL_law_649 : decode code 649 = .ok (.if_icmp .eq 660, 3) := by decide +kernel
theorem dL_law_652 : decode code 652 = .ok (.iconst 0, 1) := by decide +kernel
theorem dL_law_653 : decode code 653 = .ok (.ireturn, 1) := by decide +kernel
theorem dL_law_654 : decode code 654 = .ok (.aload_n 1, 1) := by decide +kernel
theorem dL_law_655 : decode code 655 = .ok (.invokevirtual 81, 3) := by decide +kernel
theorem dL_law_658 : decode code 658 = .ok (.aload_n 2, 1) := by decide +kernel
theorem dL_law_659 : decode code 659 = .ok (.invokevirtual 84, 3) := by decide +kernel
theorem dL_law_662 : decode code 662 = .ok (.if_icmp .eq 647, 3) := by decide +kernel
theorem dL_law_665 : decode code 665 = .ok (.iconst 0, 1) := by decide +kernel
theorem dL_law_666 : decode code 666 = .ok (.ireturn, 1) := by decide +kernel
theorem dL_law_667 : decode code 667 = .ok (.aload_n 1, 1) := by decide +kernel
theorem dL_law_668 : decode code 668 = .ok (.aload_n 0, 1) := by decide +kernel
theorem dL_law_669 : decode code 669 = .ok (.iload_n 3, 1) := by decide +kernel
theorem dL_law_670 : decode code 670 = .ok (.iconst 1, 1) := by decide +kernel
theorem dL_law_671 : decode code 671 = .ok (.iadd, 1) := by decide +kernel
theorem dL_law_672 : decode code 672 = .ok (.iaload, 1) := by decide +kernel
theorem dL_law_673 : decode code 673 = .ok (.invokevirtual 85, 3) := by decide +kernel
theorem dL_law_676 : decode code 676 = .ok (.aload_n 2, 1) := by decide +kernel
theorem dL_law_677 : decode code 677 = .ok (.aload_n 0, 1) := by decide +kernel
theorem dL_law_678 : decode code 678 = .ok (.iload_n 3, 1) := by decide +kernel
theorem dL_law_679 : decode code 679 = .ok (.iconst 1, 1) := by decide +kernel
theorem dL_law_680 : decode code 680 = .ok (.iadd, 1) := by decide +kernel
theorem dL_law_681 : decode code 681 = .ok (.iaload, 1) := by decide +kernel
theorem dL_law_682 : decode code 682 = .ok (.invokevirtual 88, 3) := by decide +kernel
theorem dL_law_685 : decode code 685 = .ok (.if_icmp .eq 624, 3) := by decide +kernel
theorem dL_law_688 : decode code 688 = .ok (.iconst 0, 1) := by decide +kernel
theorem dL_law_689 : decode code 689 = .ok (.ireturn, 1) := by decide +kernel
theorem dL_law_690 : decode code 690 = .ok (.aload_n 1, 1) := by decide +kernel
theorem dL_law_691 : decode code 691 = .ok (.aload_n 0, 1) := by decide +kernel
theorem dL_law_692 : decode code 692 = .ok (.iload_n 3, 1) := by decide +kernel
theorem dL_law_693 : decode code 693 = .ok (.iconst 1, 1) := by decide +kernel
theorem dL_law_694 : decode code 694 = .ok (.iadd, 1) := by decide +kernel
theorem dL_law_695 : decode code 695 = .ok (.iaload, 1) := by decide +kernel
theorem dL_law_696 : decode code 696 = .ok (.invokevirtual 89, 3) := by decide +kernel
theorem dL_law_699 : decode code 699 = .ok (.aload_n 2, 1) := by decide +kernel
theorem dL_law_700 : decode code 700 = .ok (.aload_n 0, 1) := by decide +kernel
theorem dL_law_701 : decode code 701 = .ok (.iload_n 3, 1) := by decide +kernel
theorem dL_law_702 : decode code 702 = .ok (.iconst 1, 1) := by decide +kernel
theorem dL_law_703 : decode code 703 = .ok (.iadd, 1) := by decide +kernel
theorem dL_law_704 : decode code 704 = .ok (.iaload, 1) := by decide +kernel
theorem dL_law_705 : decode code 705 = .ok (.invokevirtual 92, 3) := by decide +kernel
theorem dL_law_708 : decode code 708 = .ok (.if_icmp .eq 601, 3) := by decide +kernel
theorem dL_law_711 : decode code 711 = .ok (.iconst 0, 1) := by decide +kernel
theorem dL_law_712 : decode code 712 = .ok (.ireturn, 1) := by decide +kernel
theorem dL_law_713 : decode code 713 = .ok (.aload_n 1, 1) := by decide +kernel
theorem dL_law_714 : decode code 714 = .ok (.aload_n 0, 1) := by decide +kernel
theorem dL_law_715 : decode code 715 = .ok (.iload_n 3, 1) := by decide +kernel
theorem dL_law_716 : decode code 716 = .ok (.iconst 1, 1) := by decide +kernel
theorem dL_law_717 : decode code 717 = .ok (.iadd, 1) := by decide +kernel
theorem dL_law_718 : decode code 718 = .ok (.iaload, 1) := by decide +kernel
theorem dL_law_719 : decode code 719 = .ok (.invokevirtual 93, 3) := by decide +kernel
theorem dL_law_722 : decode code 722 = .ok (.aload_n 2, 1) := by decide +kernel
theorem dL_law_723 : decode code 723 = .ok (.aload_n 0, 1) := by decide +kernel
theorem dL_law_724 : decode code 724 = .ok (.iload_n 3, 1) := by decide +kernel
theorem dL_law_725 : decode code 725 = .ok (.iconst 1, 1) := by decide +kernel
theorem dL_law_726 : decode code 726 = .ok (.iadd, 1) := by decide +kernel
theorem dL_law_727 : decode code 727 = .ok (.iaload, 1) := by decide +kernel
theorem dL_law_728 : decode code 728 = .ok (.invokevirtual 96, 3) := by decide +kernel
theorem dL_law_731 : decode code 731 = .ok (.if_icmp .eq 578, 3) := by decide +kernel
theorem dL_law_734 : decode code 734 = .ok (.iconst 0, 1) := by decide +kernel
theorem dL_law_735 : decode code 735 = .ok (.ireturn, 1) := by decide +kernel
theorem dL_law_736 : decode code 736 = .ok (.aload_n 1, 1) := by decide +kernel
theorem dL_law_737 : decode code 737 = .ok (.aload_n 0, 1) := by decide +kernel
theorem dL_law_738 : decode code 738 = .ok (.iload_n 3, 1) := by decide +kernel
theorem dL_law_739 : decode code 739 = .ok (.iconst 1, 1) := by decide +kernel
theorem dL_law_740 : decode code 740 = .ok (.iadd, 1) := by decide +kernel
theorem dL_law_741 : decode code 741 = .ok (.iaload, 1) := by decide +kernel
theorem dL_law_742 : decode code 742 = .ok (.aload_n 0, 1) := by decide +kernel
theorem dL_law_743 : decode code 743 = .ok (.iload_n 3, 1) := by decide +kernel
theorem dL_law_744 : decode code 744 = .ok (.iconst 2, 1) := by decide +kernel
theorem dL_law_745 : decode code 745 = .ok (.iadd, 1) := by decide +kernel
theorem dL_law_746 : decode code 746 = .ok (.iaload, 1) := by decide +kernel
theorem dL_law_747 : decode code 747 = .ok (.invokevirtual 97, 3) := by decide +kernel
theorem dL_law_750 : decode code 750 = .ok (.aload_n 2, 1) := by decide +kernel
theorem dL_law_751 : decode code 751 = .ok (.aload_n 0, 1) := by decide +kernel
theorem dL_law_752 : decode code 752 = .ok (.iload_n 3, 1) := by decide +kernel
theorem dL_law_753 : decode code 753 = .ok (.iconst 1, 1) := by decide +kernel
theorem dL_law_754 : decode code 754 = .ok (.iadd, 1) := by decide +kernel
theorem dL_law_755 : decode code 755 = .ok (.iaload, 1) := by decide +kernel
theorem dL_law_756 : decode code 756 = .ok (.aload_n 0, 1) := by decide +kernel
theorem dL_law_757 : decode code 757 = .ok (.iload_n 3, 1) := by decide +kernel
theorem dL_law_758 : decode code 758 = .ok (.iconst 2, 1) := by decide +kernel
theorem dL_law_759 : decode code 759 = .ok (.iadd, 1) := by decide +kernel
theorem dL_law_760 : decode code 760 = .ok (.iaload, 1) := by decide +kernel
theorem dL_law_761 : decode code 761 = .ok (.invokevirtual 100, 3) := by decide +kernel
theorem dL_law_764 : decode code 764 = .ok (.if_icmp .eq 545, 3) := by decide +kernel
theorem dL_law_767 : decode code 767 = .ok (.iconst 0, 1) := by decide +kernel
theorem dL_law_768 : decode code 768 = .ok (.ireturn, 1) := by decide +kernel
theorem dL_law_769 : decode code 769 = .ok (.aload_n 1, 1) := by decide +kernel
theorem dL_law_770 : decode code 770 = .ok (.aload_n 0, 1) := by decide +kernel
theorem dL_law_771 : decode code 771 = .ok (.iload_n 3, 1) := by decide +kernel
theorem dL_law_772 : decode code 772 = .ok (.iconst 1, 1) := by decide +kernel
theorem dL_law_773 : decode code 773 = .ok (.iadd, 1) := by decide +kernel
theorem dL_law_774 : decode code 774 = .ok (.iaload, 1) := by decide +kernel
theorem dL_law_775 : decode code 775 = .ok (.invokevirtual 101, 3) := by decide +kernel
theorem dL_law_778 : decode code 778 = .ok (.aload_n 2, 1) := by decide +kernel
theorem dL_law_779 : decode code 779 = .ok (.aload_n 0, 1) := by decide +kernel
theorem dL_law_780 : decode code 780 = .ok (.iload_n 3, 1) := by decide +kernel
theorem dL_law_781 : decode code 781 = .ok (.iconst 1, 1) := by decide +kernel
theorem dL_law_782 : decode code 782 = .ok (.iadd, 1) := by decide +kernel
theorem dL_law_783 : decode code 783 = .ok (.iaload, 1) := by decide +kernel
theorem dL_law_784 : decode code 784 = .ok (.invokevirtual 104, 3) := by decide +kernel
theorem dL_law_787 : decode code 787 = .ok (.if_icmp .eq 522, 3) := by decide +kernel
theorem dL_law_790 : decode code 790 = .ok (.iconst 0, 1) := by decide +kernel
theorem dL_law_791 : decode code 791 = .ok (.ireturn, 1) := by decide +kernel
theorem dL_law_792 : decode code 792 = .ok (.aload_n 1, 1) := by decide +kernel
theorem dL_law_793 : decode code 793 = .ok (.aload_n 0, 1) := by decide +kernel
theorem dL_law_794 : decode code 794 = .ok (.iload_n 3, 1) := by decide +kernel
theorem dL_law_795 : decode code 795 = .ok (.iconst 1, 1) := by decide +kernel
theorem dL_law_796 : decode code 796 = .ok (.iadd, 1) := by decide +kernel
theorem dL_law_797 : decode code 797 = .ok (.iaload, 1) := by decide +kernel
theorem dL_law_798 : decode code 798 = .ok (.aload_n 0, 1) := by decide +kernel
theorem dL_law_799 : decode code 799 = .ok (.iload_n 3, 1) := by decide +kernel
theorem dL_law_800 : decode code 800 = .ok (.iconst 2, 1) := by decide +kernel
theorem dL_law_801 : decode code 801 = .ok (.iadd, 1) := by decide +kernel
theorem dL_law_802 : decode code 802 = .ok (.iaload, 1) := by decide +kernel
theorem dL_law_803 : decode code 803 = .ok (.aload_n 0, 1) := by decide +kernel
theorem dL_law_804 : decode code 804 = .ok (.iload_n 3, 1) := by decide +kernel
theorem dL_law_805 : decode code 805 = .ok (.iconst 3, 1) := by decide +kernel
theorem dL_law_806 : decode code 806 = .ok (.iadd, 1) := by decide +kernel
theorem dL_law_807 : decode code 807 = .ok (.iaload, 1) := by decide +kernel
theorem dL_law_808 : decode code 808 = .ok (.invokevirtual 105, 3) := by decide +kernel
theorem dL_law_811 : decode code 811 = .ok (.aload_n 2, 1) := by decide +kernel
theorem dL_law_812 : decode code 812 = .ok (.aload_n 0, 1) := by decide +kernel
theorem dL_law_813 : decode code 813 = .ok (.iload_n 3, 1) := by decide +kernel
theorem dL_law_814 : decode code 814 = .ok (.iconst 1, 1) := by decide +kernel
theorem dL_law_815 : decode code 815 = .ok (.iadd, 1) := by decide +kernel
theorem dL_law_816 : decode code 816 = .ok (.iaload, 1) := by decide +kernel
theorem dL_law_817 : decode code 817 = .ok (.aload_n 0, 1) := by decide +kernel
theorem dL_law_818 : decode code 818 = .ok (.iload_n 3, 1) := by decide +kernel
theorem dL_law_819 : decode code 819 = .ok (.iconst 2, 1) := by decide +kernel
theorem dL_law_820 : decode code 820 = .ok (.iadd, 1) := by decide +kernel
theorem dL_law_821 : decode code 821 = .ok (.iaload, 1) := by decide +kernel
theorem dL_law_822 : decode code 822 = .ok (.aload_n 0, 1) := by decide +kernel
theorem dL_law_823 : decode code 823 = .ok (.iload_n 3, 1) := by decide +kernel
theorem dL_law_824 : decode code 824 = .ok (.iconst 3, 1) := by decide +kernel
theorem dL_law_825 : decode code 825 = .ok (.iadd, 1) := by decide +kernel
theorem dL_law_826 : decode code 826 = .ok (.iaload, 1) := by decide +kernel
theorem dL_law_827 : decode code 827 = .ok (.invokevirtual 108, 3) := by decide +kernel
theorem dL_law_830 : decode code 830 = .ok (.if_icmp .eq 479, 3) := by decide +kernel
theorem dL_law_833 : decode code 833 = .ok (.iconst 0, 1) := by decide +kernel
theorem dL_law_834 : decode code 834 = .ok (.ireturn, 1) := by decide +kernel
theorem dL_law_835 : decode code 835 = .ok (.aload_n 1, 1) := by decide +kernel
theorem dL_law_836 : decode code 836 = .ok (.invokevirtual 109, 3) := by decide +kernel
theorem dL_law_839 : decode code 839 = .ok (.aload_n 2, 1) := by decide +kernel
theorem dL_law_840 : decode code 840 = .ok (.invokevirtual 112, 3) := by decide +kernel
theorem dL_law_843 : decode code 843 = .ok (.if_icmp .eq 466, 3) := by decide +kernel
theorem dL_law_846 : decode code 846 = .ok (.iconst 0, 1) := by decide +kernel
theorem dL_law_847 : decode code 847 = .ok (.ireturn, 1) := by decide +kernel
theorem dL_law_848 : decode code 848 = .ok (.aload_n 1, 1) := by decide +kernel
theorem dL_law_849 : decode code 849 = .ok (.invokevirtual 113, 3) := by decide +kernel
theorem dL_law_852 : decode code 852 = .ok (.aload_n 2, 1) := by decide +kernel
theorem dL_law_853 : decode code 853 = .ok (.invokevirtual 116, 3) := by decide +kernel
theorem dL_law_856 : decode code 856 = .ok (.if_icmp .eq 453, 3) := by decide +kernel
theorem dL_law_859 : decode code 859 = .ok (.iconst 0, 1) := by decide +kernel
theorem dL_law_860 : decode code 860 = .ok (.ireturn, 1) := by decide +kernel
theorem dL_law_861 : decode code 861 = .ok (.aload_n 1, 1) := by decide +kernel
theorem dL_law_862 : decode code 862 = .ok (.aload_n 0, 1) := by decide +kernel
theorem dL_law_863 : decode code 863 = .ok (.iload_n 3, 1) := by decide +kernel
theorem dL_law_864 : decode code 864 = .ok (.iconst 1, 1) := by decide +kernel
theorem dL_law_865 : decode code 865 = .ok (.iadd, 1) := by decide +kernel
theorem dL_law_866 : decode code 866 = .ok (.iaload, 1) := by decide +kernel
theorem dL_law_867 : decode code 867 = .ok (.aload_n 0, 1) := by decide +kernel
theorem dL_law_868 : decode code 868 = .ok (.iload_n 3, 1) := by decide +kernel
theorem dL_law_869 : decode code 869 = .ok (.iconst 2, 1) := by decide +kernel
theorem dL_law_870 : decode code 870 = .ok (.iadd, 1) := by decide +kernel
theorem dL_law_871 : decode code 871 = .ok (.iaload, 1) := by decide +kernel
theorem dL_law_872 : decode code 872 = .ok (.invokevirtual 117, 3) := by decide +kernel
theorem dL_law_875 : decode code 875 = .ok (.aload_n 2, 1) := by decide +kernel
theorem dL_law_876 : decode code 876 = .ok (.aload_n 0, 1) := by decide +kernel
theorem dL_law_877 : decode code 877 = .ok (.iload_n 3, 1) := by decide +kernel
theorem dL_law_878 : decode code 878 = .ok (.iconst 1, 1) := by decide +kernel
theorem dL_law_879 : decode code 879 = .ok (.iadd, 1) := by decide +kernel
theorem dL_law_880 : decode code 880 = .ok (.iaload, 1) := by decide +kernel
theorem dL_law_881 : decode code 881 = .ok (.aload_n 0, 1) := by decide +kernel
theorem dL_law_882 : decode code 882 = .ok (.iload_n 3, 1) := by decide +kernel
theorem dL_law_883 : decode code 883 = .ok (.iconst 2, 1) := by decide +kernel
theorem dL_law_884 : decode code 884 = .ok (.iadd, 1) := by decide +kernel
theorem dL_law_885 : decode code 885 = .ok (.iaload, 1) := by decide +kernel
theorem dL_law_886 : decode code 886 = .ok (.invokevirtual 120, 3) := by decide +kernel
theorem dL_law_889 : decode code 889 = .ok (.if_icmp .eq 420, 3) := by decide +kernel
theorem dL_law_892 : decode code 892 = .ok (.iconst 0, 1) := by decide +kernel
theorem dL_law_893 : decode code 893 = .ok (.ireturn, 1) := by decide +kernel
theorem dL_law_894 : decode code 894 = .ok (.aload_n 1, 1) := by decide +kernel
theorem dL_law_895 : decode code 895 = .ok (.aload_n 0, 1) := by decide +kernel
theorem dL_law_896 : decode code 896 = .ok (.iload_n 3, 1) := by decide +kernel
theorem dL_law_897 : decode code 897 = .ok (.iconst 1, 1) := by decide +kernel
theorem dL_law_898 : decode code 898 = .ok (.iadd, 1) := by decide +kernel
theorem dL_law_899 : decode code 899 = .ok (.iaload, 1) := by decide +kernel
theorem dL_law_900 : decode code 900 = .ok (.aload_n 0, 1) := by decide +kernel
theorem dL_law_901 : decode code 901 = .ok (.iload_n 3, 1) := by decide +kernel
theorem dL_law_902 : decode code 902 = .ok (.iconst 2, 1) := by decide +kernel
theorem dL_law_903 : decode code 903 = .ok (.iadd, 1) := by decide +kernel
theorem dL_law_904 : decode code 904 = .ok (.iaload, 1) := by decide +kernel
theorem dL_law_905 : decode code 905 = .ok (.invokevirtual 121, 3) := by decide +kernel
theorem dL_law_908 : decode code 908 = .ok (.aload_n 2, 1) := by decide +kernel
theorem dL_law_909 : decode code 909 = .ok (.aload_n 0, 1) := by decide +kernel
theorem dL_law_910 : decode code 910 = .ok (.iload_n 3, 1) := by decide +kernel
theorem dL_law_911 : decode code 911 = .ok (.iconst 1, 1) := by decide +kernel
theorem dL_law_912 : decode code 912 = .ok (.iadd, 1) := by decide +kernel
theorem dL_law_913 : decode code 913 = .ok (.iaload, 1) := by decide +kernel
theorem dL_law_914 : decode code 914 = .ok (.aload_n 0, 1) := by decide +kernel
theorem dL_law_915 : decode code 915 = .ok (.iload_n 3, 1) := by decide +kernel
theorem dL_law_916 : decode code 916 = .ok (.iconst 2, 1) := by decide +kernel
theorem dL_law_917 : decode code 917 = .ok (.iadd, 1) := by decide +kernel
theorem dL_law_918 : decode code 918 = .ok (.iaload, 1) := by decide +kernel
theorem dL_law_919 : decode code 919 = .ok (.invokevirtual 124, 3) := by decide +kernel
theorem dL_law_922 : decode code 922 = .ok (.if_icmp .eq 387, 3) := by decide +kernel
theorem dL_law_925 : decode code 925 = .ok (.iconst 0, 1) := by decide +kernel
theorem dL_law_926 : decode code 926 = .ok (.ireturn, 1) := by decide +kernel
theorem dL_law_927 : decode code 927 = .ok (.aload_n 1, 1) := by decide +kernel
theorem dL_law_928 : decode code 928 = .ok (.aload_n 0, 1) := by decide +kernel
theorem dL_law_929 : decode code 929 = .ok (.iload_n 3, 1) := by decide +kernel
theorem dL_law_930 : decode code 930 = .ok (.iconst 1, 1) := by decide +kernel
theorem dL_law_931 : decode code 931 = .ok (.iadd, 1) := by decide +kernel
theorem dL_law_932 : decode code 932 = .ok (.iaload, 1) := by decide +kernel
theorem dL_law_933 : decode code 933 = .ok (.aload_n 0, 1) := by decide +kernel
theorem dL_law_934 : decode code 934 = .ok (.iload_n 3, 1) := by decide +kernel
theorem dL_law_935 : decode code 935 = .ok (.iconst 2, 1) := by decide +kernel
theorem dL_law_936 : decode code 936 = .ok (.iadd, 1) := by decide +kernel
theorem dL_law_937 : decode code 937 = .ok (.iaload, 1) := by decide +kernel
theorem dL_law_938 : decode code 938 = .ok (.aload_n 0, 1) := by decide +kernel
theorem dL_law_939 : decode code 939 = .ok (.iload_n 3, 1) := by decide +kernel
theorem dL_law_940 : decode code 940 = .ok (.iconst 3, 1) := by decide +kernel
theorem dL_law_941 : decode code 941 = .ok (.iadd, 1) := by decide +kernel
theorem dL_law_942 : decode code 942 = .ok (.iaload, 1) := by decide +kernel
theorem dL_law_943 : decode code 943 = .ok (.invokevirtual 125, 3) := by decide +kernel
theorem dL_law_946 : decode code 946 = .ok (.aload_n 2, 1) := by decide +kernel
theorem dL_law_947 : decode code 947 = .ok (.aload_n 0, 1) := by decide +kernel
theorem dL_law_948 : decode code 948 = .ok (.iload_n 3, 1) := by decide +kernel
theorem dL_law_949 : decode code 949 = .ok (.iconst 1, 1) := by decide +kernel
theorem dL_law_950 : decode code 950 = .ok (.iadd, 1) := by decide +kernel
theorem dL_law_951 : decode code 951 = .ok (.iaload, 1) := by decide +kernel
theorem dL_law_952 : decode code 952 = .ok (.aload_n 0, 1) := by decide +kernel
theorem dL_law_953 : decode code 953 = .ok (.iload_n 3, 1) := by decide +kernel
theorem dL_law_954 : decode code 954 = .ok (.iconst 2, 1) := by decide +kernel
theorem dL_law_955 : decode code 955 = .ok (.iadd, 1) := by decide +kernel
theorem dL_law_956 : decode code 956 = .ok (.iaload, 1) := by decide +kernel
theorem dL_law_957 : decode code 957 = .ok (.aload_n 0, 1) := by decide +kernel
theorem dL_law_958 : decode code 958 = .ok (.iload_n 3, 1) := by decide +kernel
theorem dL_law_959 : decode code 959 = .ok (.iconst 3, 1) := by decide +kernel
theorem dL_law_960 : decode code 960 = .ok (.iadd, 1) := by decide +kernel
theorem dL_law_961 : decode code 961 = .ok (.iaload, 1) := by decide +kernel
theorem dL_law_962 : decode code 962 = .ok (.invokevirtual 129, 3) := by decide +kernel
theorem dL_law_965 : decode code 965 = .ok (.lcmp, 1) := by decide +kernel
theorem dL_law_966 : decode code 966 = .ok (.ifCond .eq 343, 3) := by decide +kernel
theorem dL_law_969 : decode code 969 = .ok (.iconst 0, 1) := by decide +kernel
theorem dL_law_970 : decode code 970 = .ok (.ireturn, 1) := by decide +kernel
theorem dL_law_971 : decode code 971 = .ok (.aload_n 1, 1) := by decide +kernel
theorem dL_law_972 : decode code 972 = .ok (.aload_n 0, 1) := by decide +kernel
theorem dL_law_973 : decode code 973 = .ok (.iload_n 3, 1) := by decide +kernel
theorem dL_law_974 : decode code 974 = .ok (.iconst 1, 1) := by decide +kernel
theorem dL_law_975 : decode code 975 = .ok (.iadd, 1) := by decide +kernel
theorem dL_law_976 : decode code 976 = .ok (.iaload, 1) := by decide +kernel
theorem dL_law_977 : decode code 977 = .ok (.aload_n 0, 1) := by decide +kernel
theorem dL_law_978 : decode code 978 = .ok (.iload_n 3, 1) := by decide +kernel
theorem dL_law_979 : decode code 979 = .ok (.iconst 2, 1) := by decide +kernel
theorem dL_law_980 : decode code 980 = .ok (.iadd, 1) := by decide +kernel
theorem dL_law_981 : decode code 981 = .ok (.iaload, 1) := by decide +kernel
theorem dL_law_982 : decode code 982 = .ok (.aload_n 0, 1) := by decide +kernel
theorem dL_law_983 : decode code 983 = .ok (.iload_n 3, 1) := by decide +kernel
theorem dL_law_984 : decode code 984 = .ok (.iconst 3, 1) := by decide +kernel
theorem dL_law_985 : decode code 985 = .ok (.iadd, 1) := by decide +kernel
theorem dL_law_986 : decode code 986 = .ok (.iaload, 1) := by decide +kernel
theorem dL_law_987 : decode code 987 = .ok (.invokevirtual 130, 3) := by decide +kernel
theorem dL_law_990 : decode code 990 = .ok (.aload_n 2, 1) := by decide +kernel
theorem dL_law_991 : decode code 991 = .ok (.aload_n 0, 1) := by decide +kernel
theorem dL_law_992 : decode code 992 = .ok (.iload_n 3, 1) := by decide +kernel
theorem dL_law_993 : decode code 993 = .ok (.iconst 1, 1) := by decide +kernel
theorem dL_law_994 : decode code 994 = .ok (.iadd, 1) := by decide +kernel
theorem dL_law_995 : decode code 995 = .ok (.iaload, 1) := by decide +kernel
theorem dL_law_996 : decode code 996 = .ok (.aload_n 0, 1) := by decide +kernel
theorem dL_law_997 : decode code 997 = .ok (.iload_n 3, 1) := by decide +kernel
theorem dL_law_998 : decode code 998 = .ok (.iconst 2, 1) := by decide +kernel
theorem dL_law_999 : decode code 999 = .ok (.iadd, 1) := by decide +kernel
theorem dL_law_1000 : decode code 1000 = .ok (.iaload, 1) := by decide +kernel
theorem dL_law_1001 : decode code 1001 = .ok (.aload_n 0, 1) := by decide +kernel
theorem dL_law_1002 : decode code 1002 = .ok (.iload_n 3, 1) := by decide +kernel
theorem dL_law_1003 : decode code 1003 = .ok (.iconst 3, 1) := by decide +kernel
theorem dL_law_1004 : decode code 1004 = .ok (.iadd, 1) := by decide +kernel
theorem dL_law_1005 : decode code 1005 = .ok (.iaload, 1) := by decide +kernel
theorem dL_law_1006 : decode code 1006 = .ok (.invokevirtual 133, 3) := by decide +kernel
theorem dL_law_1009 : decode code 1009 = .ok (.if_icmp .eq 300, 3) := by decide +kernel
theorem dL_law_1012 : decode code 1012 = .ok (.iconst 0, 1) := by decide +kernel
theorem dL_law_1013 : decode code 1013 = .ok (.ireturn, 1) := by decide +kernel
theorem dL_law_1014 : decode code 1014 = .ok (.aload_n 1, 1) := by decide +kernel
theorem dL_law_1015 : decode code 1015 = .ok (.aload_n 0, 1) := by decide +kernel
theorem dL_law_1016 : decode code 1016 = .ok (.iload_n 3, 1) := by decide +kernel
theorem dL_law_1017 : decode code 1017 = .ok (.iconst 1, 1) := by decide +kernel
theorem dL_law_1018 : decode code 1018 = .ok (.iadd, 1) := by decide +kernel
theorem dL_law_1019 : decode code 1019 = .ok (.iaload, 1) := by decide +kernel
theorem dL_law_1020 : decode code 1020 = .ok (.aload_n 0, 1) := by decide +kernel
theorem dL_law_1021 : decode code 1021 = .ok (.iload_n 3, 1) := by decide +kernel
theorem dL_law_1022 : decode code 1022 = .ok (.iconst 2, 1) := by decide +kernel
theorem dL_law_1023 : decode code 1023 = .ok (.iadd, 1) := by decide +kernel
theorem dL_law_1024 : decode code 1024 = .ok (.iaload, 1) := by decide +kernel
theorem dL_law_1025 : decode code 1025 = .ok (.aload_n 0, 1) := by decide +kernel
theorem dL_law_1026 : decode code 1026 = .ok (.iload_n 3, 1) := by decide +kernel
theorem dL_law_1027 : decode code 1027 = .ok (.iconst 3, 1) := by decide +kernel
theorem dL_law_1028 : decode code 1028 = .ok (.iadd, 1) := by decide +kernel
theorem dL_law_1029 : decode code 1029 = .ok (.iaload, 1) := by decide +kernel
theorem dL_law_1030 : decode code 1030 = .ok (.invokevirtual 134, 3) := by decide +kernel
theorem dL_law_1033 : decode code 1033 = .ok (.aload_n 2, 1) := by decide +kernel
theorem dL_law_1034 : decode code 1034 = .ok (.aload_n 0, 1) := by decide +kernel
theorem dL_law_1035 : decode code 1035 = .ok (.iload_n 3, 1) := by decide +kernel
theorem dL_law_1036 : decode code 1036 = .ok (.iconst 1, 1) := by decide +kernel
theorem dL_law_1037 : decode code 1037 = .ok (.iadd, 1) := by decide +kernel
theorem dL_law_1038 : decode code 1038 = .ok (.iaload, 1) := by decide +kernel
theorem dL_law_1039 : decode code 1039 = .ok (.aload_n 0, 1) := by decide +kernel
theorem dL_law_1040 : decode code 1040 = .ok (.iload_n 3, 1) := by decide +kernel
theorem dL_law_1041 : decode code 1041 = .ok (.iconst 2, 1) := by decide +kernel
theorem dL_law_1042 : decode code 1042 = .ok (.iadd, 1) := by decide +kernel
theorem dL_law_1043 : decode code 1043 = .ok (.iaload, 1) := by decide +kernel
theorem dL_law_1044 : decode code 1044 = .ok (.aload_n 0, 1) := by decide +kernel
theorem dL_law_1045 : decode code 1045 = .ok (.iload_n 3, 1) := by decide +kernel
theorem dL_law_1046 : decode code 1046 = .ok (.iconst 3, 1) := by decide +kernel
theorem dL_law_1047 : decode code 1047 = .ok (.iadd, 1) := by decide +kernel
theorem dL_law_1048 : decode code 1048 = .ok (.iaload, 1) := by decide +kernel
theorem dL_law_1049 : decode code 1049 = .ok (.invokevirtual 137, 3) := by decide +kernel
theorem dL_law_1052 : decode code 1052 = .ok (.if_icmp .eq 257, 3) := by decide +kernel
theorem dL_law_1055 : decode code 1055 = .ok (.iconst 0, 1) := by decide +kernel
theorem dL_law_1056 : decode code 1056 = .ok (.ireturn, 1) := by decide +kernel
theorem dL_law_1057 : decode code 1057 = .ok (.aload_n 1, 1) := by decide +kernel
theorem dL_law_1058 : decode code 1058 = .ok (.aload_n 0, 1) := by decide +kernel
theorem dL_law_1059 : decode code 1059 = .ok (.iload_n 3, 1) := by decide +kernel
theorem dL_law_1060 : decode code 1060 = .ok (.iconst 1, 1) := by decide +kernel
theorem dL_law_1061 : decode code 1061 = .ok (.iadd, 1) := by decide +kernel
theorem dL_law_1062 : decode code 1062 = .ok (.iaload, 1) := by decide +kernel
theorem dL_law_1063 : decode code 1063 = .ok (.invokevirtual 138, 3) := by decide +kernel
theorem dL_law_1066 : decode code 1066 = .ok (.aload_n 2, 1) := by decide +kernel
theorem dL_law_1067 : decode code 1067 = .ok (.aload_n 0, 1) := by decide +kernel
theorem dL_law_1068 : decode code 1068 = .ok (.iload_n 3, 1) := by decide +kernel
theorem dL_law_1069 : decode code 1069 = .ok (.iconst 1, 1) := by decide +kernel
theorem dL_law_1070 : decode code 1070 = .ok (.iadd, 1) := by decide +kernel
theorem dL_law_1071 : decode code 1071 = .ok (.iaload, 1) := by decide +kernel
theorem dL_law_1072 : decode code 1072 = .ok (.invokevirtual 141, 3) := by decide +kernel
theorem dL_law_1075 : decode code 1075 = .ok (.if_icmp .eq 234, 3) := by decide +kernel
theorem dL_law_1078 : decode code 1078 = .ok (.iconst 0, 1) := by decide +kernel
theorem dL_law_1079 : decode code 1079 = .ok (.ireturn, 1) := by decide +kernel
theorem dL_law_1080 : decode code 1080 = .ok (.aload_n 1, 1) := by decide +kernel
theorem dL_law_1081 : decode code 1081 = .ok (.aload_n 0, 1) := by decide +kernel
theorem dL_law_1082 : decode code 1082 = .ok (.iload_n 3, 1) := by decide +kernel
theorem dL_law_1083 : decode code 1083 = .ok (.iconst 1, 1) := by decide +kernel
theorem dL_law_1084 : decode code 1084 = .ok (.iadd, 1) := by decide +kernel
theorem dL_law_1085 : decode code 1085 = .ok (.iaload, 1) := by decide +kernel
theorem dL_law_1086 : decode code 1086 = .ok (.aload_n 0, 1) := by decide +kernel
theorem dL_law_1087 : decode code 1087 = .ok (.iload_n 3, 1) := by decide +kernel
theorem dL_law_1088 : decode code 1088 = .ok (.iconst 2, 1) := by decide +kernel
theorem dL_law_1089 : decode code 1089 = .ok (.iadd, 1) := by decide +kernel
theorem dL_law_1090 : decode code 1090 = .ok (.iaload, 1) := by decide +kernel
theorem dL_law_1091 : decode code 1091 = .ok (.aload_n 0, 1) := by decide +kernel
theorem dL_law_1092 : decode code 1092 = .ok (.iload_n 3, 1) := by decide +kernel
theorem dL_law_1093 : decode code 1093 = .ok (.iconst 3, 1) := by decide +kernel
theorem dL_law_1094 : decode code 1094 = .ok (.iadd, 1) := by decide +kernel
theorem dL_law_1095 : decode code 1095 = .ok (.iaload, 1) := by decide +kernel
theorem dL_law_1096 : decode code 1096 = .ok (.aload_n 0, 1) := by decide +kernel
theorem dL_law_1097 : decode code 1097 = .ok (.iload_n 3, 1) := by decide +kernel
theorem dL_law_1098 : decode code 1098 = .ok (.iconst 4, 1) := by decide +kernel
theorem dL_law_1099 : decode code 1099 = .ok (.iadd, 1) := by decide +kernel
theorem dL_law_1100 : decode code 1100 = .ok (.iaload, 1) := by decide +kernel
theorem dL_law_1101 : decode code 1101 = .ok (.invokevirtual 142, 3) := by decide +kernel
theorem dL_law_1104 : decode code 1104 = .ok (.aload_n 2, 1) := by decide +kernel
theorem dL_law_1105 : decode code 1105 = .ok (.aload_n 0, 1) := by decide +kernel
theorem dL_law_1106 : decode code 1106 = .ok (.iload_n 3, 1) := by decide +kernel
theorem dL_law_1107 : decode code 1107 = .ok (.iconst 1, 1) := by decide +kernel
theorem dL_law_1108 : decode code 1108 = .ok (.iadd, 1) := by decide +kernel
theorem dL_law_1109 : decode code 1109 = .ok (.iaload, 1) := by decide +kernel
theorem dL_law_1110 : decode code 1110 = .ok (.aload_n 0, 1) := by decide +kernel
theorem dL_law_1111 : decode code 1111 = .ok (.iload_n 3, 1) := by decide +kernel
theorem dL_law_1112 : decode code 1112 = .ok (.iconst 2, 1) := by decide +kernel
theorem dL_law_1113 : decode code 1113 = .ok (.iadd, 1) := by decide +kernel
theorem dL_law_1114 : decode code 1114 = .ok (.iaload, 1) := by decide +kernel
theorem dL_law_1115 : decode code 1115 = .ok (.aload_n 0, 1) := by decide +kernel
theorem dL_law_1116 : decode code 1116 = .ok (.iload_n 3, 1) := by decide +kernel
theorem dL_law_1117 : decode code 1117 = .ok (.iconst 3, 1) := by decide +kernel
theorem dL_law_1118 : decode code 1118 = .ok (.iadd, 1) := by decide +kernel
theorem dL_law_1119 : decode code 1119 = .ok (.iaload, 1) := by decide +kernel
theorem dL_law_1120 : decode code 1120 = .ok (.aload_n 0, 1) := by decide +kernel
theorem dL_law_1121 : decode code 1121 = .ok (.iload_n 3, 1) := by decide +kernel
theorem dL_law_1122 : decode code 1122 = .ok (.iconst 4, 1) := by decide +kernel
theorem dL_law_1123 : decode code 1123 = .ok (.iadd, 1) := by decide +kernel
theorem dL_law_1124 : decode code 1124 = .ok (.iaload, 1) := by decide +kernel
theorem dL_law_1125 : decode code 1125 = .ok (.invokevirtual 146, 3) := by decide +kernel
theorem dL_law_1128 : decode code 1128 = .ok (.if_icmp .eq 181, 3) := by decide +kernel
theorem dL_law_1131 : decode code 1131 = .ok (.iconst 0, 1) := by decide +kernel
theorem dL_law_1132 : decode code 1132 = .ok (.ireturn, 1) := by decide +kernel
theorem dL_law_1133 : decode code 1133 = .ok (.aload_n 1, 1) := by decide +kernel
theorem dL_law_1134 : decode code 1134 = .ok (.aload_n 0, 1) := by decide +kernel
theorem dL_law_1135 : decode code 1135 = .ok (.iload_n 3, 1) := by decide +kernel
theorem dL_law_1136 : decode code 1136 = .ok (.iconst 1, 1) := by decide +kernel
theorem dL_law_1137 : decode code 1137 = .ok (.iadd, 1) := by decide +kernel
theorem dL_law_1138 : decode code 1138 = .ok (.iaload, 1) := by decide +kernel
theorem dL_law_1139 : decode code 1139 = .ok (.aload_n 0, 1) := by decide +kernel
theorem dL_law_1140 : decode code 1140 = .ok (.iload_n 3, 1) := by decide +kernel
theorem dL_law_1141 : decode code 1141 = .ok (.iconst 2, 1) := by decide +kernel
theorem dL_law_1142 : decode code 1142 = .ok (.iadd, 1) := by decide +kernel
theorem dL_law_1143 : decode code 1143 = .ok (.iaload, 1) := by decide +kernel
theorem dL_law_1144 : decode code 1144 = .ok (.aload_n 0, 1) := by decide +kernel
theorem dL_law_1145 : decode code 1145 = .ok (.iload_n 3, 1) := by decide +kernel
theorem dL_law_1146 : decode code 1146 = .ok (.iconst 3, 1) := by decide +kernel
theorem dL_law_1147 : decode code 1147 = .ok (.iadd, 1) := by decide +kernel
theorem dL_law_1148 : decode code 1148 = .ok (.iaload, 1) := by decide +kernel
theorem dL_law_1149 : decode code 1149 = .ok (.invokevirtual 147, 3) := by decide +kernel
theorem dL_law_1152 : decode code 1152 = .ok (.aload_n 2, 1) := by decide +kernel
theorem dL_law_1153 : decode code 1153 = .ok (.aload_n 0, 1) := by decide +kernel
theorem dL_law_1154 : decode code 1154 = .ok (.iload_n 3, 1) := by decide +kernel
theorem dL_law_1155 : decode code 1155 = .ok (.iconst 1, 1) := by decide +kernel
theorem dL_law_1156 : decode code 1156 = .ok (.iadd, 1) := by decide +kernel
theorem dL_law_1157 : decode code 1157 = .ok (.iaload, 1) := by decide +kernel
theorem dL_law_1158 : decode code 1158 = .ok (.aload_n 0, 1) := by decide +kernel
theorem dL_law_1159 : decode code 1159 = .ok (.iload_n 3, 1) := by decide +kernel
theorem dL_law_1160 : decode code 1160 = .ok (.iconst 2, 1) := by decide +kernel
theorem dL_law_1161 : decode code 1161 = .ok (.iadd, 1) := by decide +kernel
theorem dL_law_1162 : decode code 1162 = .ok (.iaload, 1) := by decide +kernel
theorem dL_law_1163 : decode code 1163 = .ok (.aload_n 0, 1) := by decide +kernel
theorem dL_law_1164 : decode code 1164 = .ok (.iload_n 3, 1) := by decide +kernel
theorem dL_law_1165 : decode code 1165 = .ok (.iconst 3, 1) := by decide +kernel
theorem dL_law_1166 : decode code 1166 = .ok (.iadd, 1) := by decide +kernel
theorem dL_law_1167 : decode code 1167 = .ok (.iaload, 1) := by decide +kernel
theorem dL_law_1168 : decode code 1168 = .ok (.invokevirtual 150, 3) := by decide +kernel
theorem dL_law_1171 : decode code 1171 = .ok (.if_icmp .eq 138, 3) := by decide +kernel
theorem dL_law_1174 : decode code 1174 = .ok (.iconst 0, 1) := by decide +kernel
theorem dL_law_1175 : decode code 1175 = .ok (.ireturn, 1) := by decide +kernel
theorem dL_law_1176 : decode code 1176 = .ok (.aload_n 1, 1) := by decide +kernel
theorem dL_law_1177 : decode code 1177 = .ok (.aload_n 0, 1) := by decide +kernel
theorem dL_law_1178 : decode code 1178 = .ok (.iload_n 3, 1) := by decide +kernel
theorem dL_law_1179 : decode code 1179 = .ok (.iconst 1, 1) := by decide +kernel
theorem dL_law_1180 : decode code 1180 = .ok (.iadd, 1) := by decide +kernel
theorem dL_law_1181 : decode code 1181 = .ok (.iaload, 1) := by decide +kernel
theorem dL_law_1182 : decode code 1182 = .ok (.aload_n 0, 1) := by decide +kernel
theorem dL_law_1183 : decode code 1183 = .ok (.iload_n 3, 1) := by decide +kernel
theorem dL_law_1184 : decode code 1184 = .ok (.iconst 2, 1) := by decide +kernel
theorem dL_law_1185 : decode code 1185 = .ok (.iadd, 1) := by decide +kernel
theorem dL_law_1186 : decode code 1186 = .ok (.iaload, 1) := by decide +kernel
theorem dL_law_1187 : decode code 1187 = .ok (.aload_n 0, 1) := by decide +kernel
theorem dL_law_1188 : decode code 1188 = .ok (.iload_n 3, 1) := by decide +kernel
theorem dL_law_1189 : decode code 1189 = .ok (.iconst 3, 1) := by decide +kernel
theorem dL_law_1190 : decode code 1190 = .ok (.iadd, 1) := by decide +kernel
theorem dL_law_1191 : decode code 1191 = .ok (.iaload, 1) := by decide +kernel
theorem dL_law_1192 : decode code 1192 = .ok (.aload_n 0, 1) := by decide +kernel
theorem dL_law_1193 : decode code 1193 = .ok (.iload_n 3, 1) := by decide +kernel
theorem dL_law_1194 : decode code 1194 = .ok (.iconst 4, 1) := by decide +kernel
theorem dL_law_1195 : decode code 1195 = .ok (.iadd, 1) := by decide +kernel
theorem dL_law_1196 : decode code 1196 = .ok (.iaload, 1) := by decide +kernel
theorem dL_law_1197 : decode code 1197 = .ok (.aload_n 0, 1) := by decide +kernel
theorem dL_law_1198 : decode code 1198 = .ok (.iload_n 3, 1) := by decide +kernel
theorem dL_law_1199 : decode code 1199 = .ok (.iconst 5, 1) := by decide +kernel
theorem dL_law_1200 : decode code 1200 = .ok (.iadd, 1) := by decide +kernel
theorem dL_law_1201 : decode code 1201 = .ok (.iaload, 1) := by decide +kernel
theorem dL_law_1202 : decode code 1202 = .ok (.invokevirtual 151, 3) := by decide +kernel
theorem dL_law_1205 : decode code 1205 = .ok (.aload_n 2, 1) := by decide +kernel
theorem dL_law_1206 : decode code 1206 = .ok (.aload_n 0, 1) := by decide +kernel
theorem dL_law_1207 : decode code 1207 = .ok (.iload_n 3, 1) := by decide +kernel
theorem dL_law_1208 : decode code 1208 = .ok (.iconst 1, 1) := by decide +kernel
theorem dL_law_1209 : decode code 1209 = .ok (.iadd, 1) := by decide +kernel
theorem dL_law_1210 : decode code 1210 = .ok (.iaload, 1) := by decide +kernel
theorem dL_law_1211 : decode code 1211 = .ok (.aload_n 0, 1) := by decide +kernel
theorem dL_law_1212 : decode code 1212 = .ok (.iload_n 3, 1) := by decide +kernel
theorem dL_law_1213 : decode code 1213 = .ok (.iconst 2, 1) := by decide +kernel
theorem dL_law_1214 : decode code 1214 = .ok (.iadd, 1) := by decide +kernel
theorem dL_law_1215 : decode code 1215 = .ok (.iaload, 1) := by decide +kernel
theorem dL_law_1216 : decode code 1216 = .ok (.aload_n 0, 1) := by decide +kernel
theorem dL_law_1217 : decode code 1217 = .ok (.iload_n 3, 1) := by decide +kernel
theorem dL_law_1218 : decode code 1218 = .ok (.iconst 3, 1) := by decide +kernel
theorem dL_law_1219 : decode code 1219 = .ok (.iadd, 1) := by decide +kernel
theorem dL_law_1220 : decode code 1220 = .ok (.iaload, 1) := by decide +kernel
theorem dL_law_1221 : decode code 1221 = .ok (.aload_n 0, 1) := by decide +kernel
theorem dL_law_1222 : decode code 1222 = .ok (.iload_n 3, 1) := by decide +kernel
theorem dL_law_1223 : decode code 1223 = .ok (.iconst 4, 1) := by decide +kernel
theorem dL_law_1224 : decode code 1224 = .ok (.iadd, 1) := by decide +kernel
theorem dL_law_1225 : decode code 1225 = .ok (.iaload, 1) := by decide +kernel
theorem dL_law_1226 : decode code 1226 = .ok (.aload_n 0, 1) := by decide +kernel
theorem dL_law_1227 : decode code 1227 = .ok (.iload_n 3, 1) := by decide +kernel
theorem dL_law_1228 : decode code 1228 = .ok (.iconst 5, 1) := by decide +kernel
theorem dL_law_1229 : decode code 1229 = .ok (.iadd, 1) := by decide +kernel
theorem dL_law_1230 : decode code 1230 = .ok (.iaload, 1) := by decide +kernel
theorem dL_law_1231 : decode code 1231 = .ok (.invokevirtual 155, 3) := by decide +kernel
theorem dL_law_1234 : decode code 1234 = .ok (.if_icmp .eq 75, 3) := by decide +kernel
theorem dL_law_1237 : decode code 1237 = .ok (.iconst 0, 1) := by decide +kernel
theorem dL_law_1238 : decode code 1238 = .ok (.ireturn, 1) := by decide +kernel
theorem dL_law_1239 : decode code 1239 = .ok (.aload_n 1, 1) := by decide +kernel
theorem dL_law_1240 : decode code 1240 = .ok (.aload_n 0, 1) := by decide +kernel
theorem dL_law_1241 : decode code 1241 = .ok (.iload_n 3, 1) := by decide +kernel
theorem dL_law_1242 : decode code 1242 = .ok (.iconst 1, 1) := by decide +kernel
theorem dL_law_1243 : decode code 1243 = .ok (.iadd, 1) := by decide +kernel
theorem dL_law_1244 : decode code 1244 = .ok (.iaload, 1) := by decide +kernel
theorem dL_law_1245 : decode code 1245 = .ok (.aload_n 0, 1) := by decide +kernel
theorem dL_law_1246 : decode code 1246 = .ok (.iload_n 3, 1) := by decide +kernel
theorem dL_law_1247 : decode code 1247 = .ok (.iconst 2, 1) := by decide +kernel
theorem dL_law_1248 : decode code 1248 = .ok (.iadd, 1) := by decide +kernel
theorem dL_law_1249 : decode code 1249 = .ok (.iaload, 1) := by decide +kernel
theorem dL_law_1250 : decode code 1250 = .ok (.invokevirtual 156, 3) := by decide +kernel
theorem dL_law_1253 : decode code 1253 = .ok (.aload_n 2, 1) := by decide +kernel
theorem dL_law_1254 : decode code 1254 = .ok (.aload_n 0, 1) := by decide +kernel
theorem dL_law_1255 : decode code 1255 = .ok (.iload_n 3, 1) := by decide +kernel
theorem dL_law_1256 : decode code 1256 = .ok (.iconst 1, 1) := by decide +kernel
theorem dL_law_1257 : decode code 1257 = .ok (.iadd, 1) := by decide +kernel
theorem dL_law_1258 : decode code 1258 = .ok (.iaload, 1) := by decide +kernel
theorem dL_law_1259 : decode code 1259 = .ok (.aload_n 0, 1) := by decide +kernel
theorem dL_law_1260 : decode code 1260 = .ok (.iload_n 3, 1) := by decide +kernel
theorem dL_law_1261 : decode code 1261 = .ok (.iconst 2, 1) := by decide +kernel
theorem dL_law_1262 : decode code 1262 = .ok (.iadd, 1) := by decide +kernel
theorem dL_law_1263 : decode code 1263 = .ok (.iaload, 1) := by decide +kernel
theorem dL_law_1264 : decode code 1264 = .ok (.invokevirtual 159, 3) := by decide +kernel
theorem dL_law_1267 : decode code 1267 = .ok (.if_icmp .eq 42, 3) := by decide +kernel
theorem dL_law_1270 : decode code 1270 = .ok (.iconst 0, 1) := by decide +kernel
theorem dL_law_1271 : decode code 1271 = .ok (.ireturn, 1) := by decide +kernel
theorem dL_law_1272 : decode code 1272 = .ok (.aload_n 1, 1) := by decide +kernel
theorem dL_law_1273 : decode code 1273 = .ok (.aload_n 0, 1) := by decide +kernel
theorem dL_law_1274 : decode code 1274 = .ok (.iload_n 3, 1) := by decide +kernel
theorem dL_law_1275 : decode code 1275 = .ok (.iconst 1, 1) := by decide +kernel
theorem dL_law_1276 : decode code 1276 = .ok (.iadd, 1) := by decide +kernel
theorem dL_law_1277 : decode code 1277 = .ok (.iaload, 1) := by decide +kernel
theorem dL_law_1278 : decode code 1278 = .ok (.invokevirtual 160, 3) := by decide +kernel
theorem dL_law_1281 : decode code 1281 = .ok (.aload_n 2, 1) := by decide +kernel
theorem dL_law_1282 : decode code 1282 = .ok (.aload_n 0, 1) := by decide +kernel
theorem dL_law_1283 : decode code 1283 = .ok (.iload_n 3, 1) := by decide +kernel
theorem dL_law_1284 : decode code 1284 = .ok (.iconst 1, 1) := by decide +kernel
theorem dL_law_1285 : decode code 1285 = .ok (.iadd, 1) := by decide +kernel
theorem dL_law_1286 : decode code 1286 = .ok (.iaload, 1) := by decide +kernel
theorem dL_law_1287 : decode code 1287 = .ok (.invokevirtual 163, 3) := by decide +kernel
theorem dL_law_1290 : decode code 1290 = .ok (.if_icmp .eq 19, 3) := by decide +kernel
theorem dL_law_1293 : decode code 1293 = .ok (.iconst 0, 1) := by decide +kernel
theorem dL_law_1294 : decode code 1294 = .ok (.ireturn, 1) := by decide +kernel
theorem dL_law_1295 : decode code 1295 = .ok (.aload_n 1, 1) := by decide +kernel
theorem dL_law_1296 : decode code 1296 = .ok (.invokevirtual 164, 3) := by decide +kernel
theorem dL_law_1299 : decode code 1299 = .ok (.aload_n 2, 1) := by decide +kernel
theorem dL_law_1300 : decode code 1300 = .ok (.invokevirtual 168, 3) := by decide +kernel
theorem dL_law_1303 : decode code 1303 = .ok (.lcmp, 1) := by decide +kernel
theorem dL_law_1304 : decode code 1304 = .ok (.ifCond .eq 5, 3) := by decide +kernel
theorem dL_law_1307 : decode code 1307 = .ok (.iconst 0, 1) := by decide +kernel
theorem dL_law_1308 : decode code 1308 = .ok (.ireturn, 1) := by decide +kernel
theorem dL_law_1309 : decode code 1309 = .ok (.iinc 3 6, 3) := by decide +kernel
theorem dL_law_1312 : decode code 1312 = .ok (.goto (-1294), 3) := by decide +kernel
theorem dL_law_1315 : decode code 1315 = .ok (.iconst 1, 1) := by decide +kernel
theorem dL_law_1316 : decode code 1316 = .ok (.ireturn, 1) := by decide +kernel
