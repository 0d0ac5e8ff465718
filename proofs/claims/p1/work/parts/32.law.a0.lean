/-! decode rows of the law (by program) -/
theorem d_Law_main_23 : decode M_Law_main.2.1 23 = .ok (.iload 4, 2) := by decide +kernel
theorem d_Law_main_25 : decode M_Law_main.2.1 25 = .ok (.aload_n 0, 1) := by decide +kernel
theorem d_Law_main_26 : decode M_Law_main.2.1 26 = .ok (.arraylength, 1) := by decide +kernel
theorem d_Law_main_27 : decode M_Law_main.2.1 27 = .ok (.bipush 6, 2) := by decide +kernel
theorem d_Law_main_29 : decode M_Law_main.2.1 29 = .ok (.isub, 1) := by decide +kernel
theorem d_Law_main_30 : decode M_Law_main.2.1 30 = .ok (.if_icmp .gt 2289, 3) := by decide +kernel
theorem d_Law_main_33 : decode M_Law_main.2.1 33 = .ok (.aload_n 0, 1) := by decide +kernel
theorem d_Law_main_34 : decode M_Law_main.2.1 34 = .ok (.iload 4, 2) := by decide +kernel
theorem d_Law_main_36 : decode M_Law_main.2.1 36 = .ok (.iaload, 1) := by decide +kernel
theorem d_Law_main_37 : decode M_Law_main.2.1 37 = .ok (.bipush 63, 2) := by decide +kernel
theorem d_Law_main_39 : decode M_Law_main.2.1 39 = .ok (.iand, 1) := by decide +kernel
theorem d_Law_main_40 : decode M_Law_main.2.1 40 = .ok (.tableswitch 2273 0 39 #[176, 249, 305, 318, 374, 442, 510, 566, 641, 666, 758, 826, 889, 952, 1020, 1100, 1163, 1176, 1232, 1245, 1301, 1314, 1327, 1383, 1439, 1519, 1587, 1655, 1711, 1767, 1823, 1836, 1892, 1948, 2032, 2100, 2113, 2169, 2249, 2260], 176) := by decide +kernel
theorem d_Law_main_216 : decode M_Law_main.2.1 216 = .ok (.aload_n 1, 1) := by decide +kernel
theorem d_Law_main_217 : decode M_Law_main.2.1 217 = .ok (.aload_n 0, 1) := by decide +kernel
theorem d_Law_main_218 : decode M_Law_main.2.1 218 = .ok (.iload 4, 2) := by decide +kernel
theorem d_Law_main_220 : decode M_Law_main.2.1 220 = .ok (.iconst 1, 1) := by decide +kernel
theorem d_Law_main_221 : decode M_Law_main.2.1 221 = .ok (.iadd, 1) := by decide +kernel
theorem d_Law_main_222 : decode M_Law_main.2.1 222 = .ok (.iaload, 1) := by decide +kernel
theorem d_Law_main_223 : decode M_Law_main.2.1 223 = .ok (.aload_n 0, 1) := by decide +kernel
theorem d_Law_main_224 : decode M_Law_main.2.1 224 = .ok (.iload 4, 2) := by decide +kernel
theorem d_Law_main_226 : decode M_Law_main.2.1 226 = .ok (.iconst 2, 1) := by decide +kernel
theorem d_Law_main_227 : decode M_Law_main.2.1 227 = .ok (.iadd, 1) := by decide +kernel
theorem d_Law_main_228 : decode M_Law_main.2.1 228 = .ok (.iaload, 1) := by decide +kernel
theorem d_Law_main_229 : decode M_Law_main.2.1 229 = .ok (.aload_n 0, 1) := by decide +kernel
theorem d_Law_main_230 : decode M_Law_main.2.1 230 = .ok (.iload 4, 2) := by decide +kernel
theorem d_Law_main_232 : decode M_Law_main.2.1 232 = .ok (.iconst 3, 1) := by decide +kernel
theorem d_Law_main_233 : decode M_Law_main.2.1 233 = .ok (.iadd, 1) := by decide +kernel
theorem d_Law_main_234 : decode M_Law_main.2.1 234 = .ok (.iaload, 1) := by decide +kernel
theorem d_Law_main_235 : decode M_Law_main.2.1 235 = .ok (.aload_n 0, 1) := by decide +kernel
theorem d_Law_main_236 : decode M_Law_main.2.1 236 = .ok (.iload 4, 2) := by decide +kernel
theorem d_Law_main_238 : decode M_Law_main.2.1 238 = .ok (.iconst 4, 1) := by decide +kernel
theorem d_Law_main_239 : decode M_Law_main.2.1 239 = .ok (.iadd, 1) := by decide +kernel
theorem d_Law_main_240 : decode M_Law_main.2.1 240 = .ok (.iaload, 1) := by decide +kernel
theorem d_Law_main_241 : decode M_Law_main.2.1 241 = .ok (.aload_n 0, 1) := by decide +kernel
theorem d_Law_main_242 : decode M_Law_main.2.1 242 = .ok (.iload 4, 2) := by decide +kernel
theorem d_Law_main_244 : decode M_Law_main.2.1 244 = .ok (.iconst 5, 1) := by decide +kernel
theorem d_Law_main_245 : decode M_Law_main.2.1 245 = .ok (.iadd, 1) := by decide +kernel
theorem d_Law_main_246 : decode M_Law_main.2.1 246 = .ok (.iaload, 1) := by decide +kernel
theorem d_Law_main_247 : decode M_Law_main.2.1 247 = .ok (.invokevirtual 111, 3) := by decide +kernel
theorem d_Law_main_250 : decode M_Law_main.2.1 250 = .ok (.aload_n 2, 1) := by decide +kernel
theorem d_Law_main_251 : decode M_Law_main.2.1 251 = .ok (.aload_n 0, 1) := by decide +kernel
theorem d_Law_main_252 : decode M_Law_main.2.1 252 = .ok (.iload 4, 2) := by decide +kernel
theorem d_Law_main_254 : decode M_Law_main.2.1 254 = .ok (.iconst 1, 1) := by decide +kernel
theorem d_Law_main_255 : decode M_Law_main.2.1 255 = .ok (.iadd, 1) := by decide +kernel
theorem d_Law_main_256 : decode M_Law_main.2.1 256 = .ok (.iaload, 1) := by decide +kernel
theorem d_Law_main_257 : decode M_Law_main.2.1 257 = .ok (.aload_n 0, 1) := by decide +kernel
theorem d_Law_main_258 : decode M_Law_main.2.1 258 = .ok (.iload 4, 2) := by decide +kernel
theorem d_Law_main_260 : decode M_Law_main.2.1 260 = .ok (.iconst 2, 1) := by decide +kernel
theorem d_Law_main_261 : decode M_Law_main.2.1 261 = .ok (.iadd, 1) := by decide +kernel
theorem d_Law_main_262 : decode M_Law_main.2.1 262 = .ok (.iaload, 1) := by decide +kernel
theorem d_Law_main_263 : decode M_Law_main.2.1 263 = .ok (.aload_n 0, 1) := by decide +kernel
theorem d_Law_main_264 : decode M_Law_main.2.1 264 = .ok (.iload 4, 2) := by decide +kernel
theorem d_Law_main_266 : decode M_Law_main.2.1 266 = .ok (.iconst 3, 1) := by decide +kernel
theorem d_Law_main_267 : decode M_Law_main.2.1 267 = .ok (.iadd, 1) := by decide +kernel
theorem d_Law_main_268 : decode M_Law_main.2.1 268 = .ok (.iaload, 1) := by decide +kernel
theorem d_Law_main_269 : decode M_Law_main.2.1 269 = .ok (.aload_n 0, 1) := by decide +kernel
theorem d_Law_main_270 : decode M_Law_main.2.1 270 = .ok (.iload 4, 2) := by decide +kernel
theorem d_Law_main_272 : decode M_Law_main.2.1 272 = .ok (.iconst 4, 1) := by decide +kernel
theorem d_Law_main_273 : decode M_Law_main.2.1 273 = .ok (.iadd, 1) := by decide +kernel
theorem d_Law_main_274 : decode M_Law_main.2.1 274 = .ok (.iaload, 1) := by decide +kernel
theorem d_Law_main_275 : decode M_Law_main.2.1 275 = .ok (.aload_n 0, 1) := by decide +kernel
theorem d_Law_main_276 : decode M_Law_main.2.1 276 = .ok (.iload 4, 2) := by decide +kernel
theorem d_Law_main_278 : decode M_Law_main.2.1 278 = .ok (.iconst 5, 1) := by decide +kernel
theorem d_Law_main_279 : decode M_Law_main.2.1 279 = .ok (.iadd, 1) := by decide +kernel
theorem d_Law_main_280 : decode M_Law_main.2.1 280 = .ok (.iaload, 1) := by decide +kernel
theorem d_Law_main_281 : decode M_Law_main.2.1 281 = .ok (.invokevirtual 115, 3) := by decide +kernel
theorem d_Law_main_284 : decode M_Law_main.2.1 284 = .ok (.if_icmp .eq 2029, 3) := by decide +kernel
theorem d_Law_main_287 : decode M_Law_main.2.1 287 = .ok (.iconst 0, 1) := by decide +kernel
theorem d_Law_main_288 : decode M_Law_main.2.1 288 = .ok (.ireturn, 1) := by decide +kernel
theorem d_Law_main_289 : decode M_Law_main.2.1 289 = .ok (.aload_n 1, 1) := by decide +kernel
theorem d_Law_main_290 : decode M_Law_main.2.1 290 = .ok (.aload_n 0, 1) := by decide +kernel
theorem d_Law_main_291 : decode M_Law_main.2.1 291 = .ok (.iload 4, 2) := by decide +kernel
theorem d_Law_main_293 : decode M_Law_main.2.1 293 = .ok (.iconst 1, 1) := by decide +kernel
theorem d_Law_main_294 : decode M_Law_main.2.1 294 = .ok (.iadd, 1) := by decide +kernel
theorem d_Law_main_295 : decode M_Law_main.2.1 295 = .ok (.iaload, 1) := by decide +kernel
theorem d_Law_main_296 : decode M_Law_main.2.1 296 = .ok (.aload_n 3, 1) := by decide +kernel
theorem d_Law_main_297 : decode M_Law_main.2.1 297 = .ok (.invokestatic 116, 3) := by decide +kernel
theorem d_Law_main_300 : decode M_Law_main.2.1 300 = .ok (.istore 5, 2) := by decide +kernel
theorem d_Law_main_302 : decode M_Law_main.2.1 302 = .ok (.aload_n 2, 1) := by decide +kernel
theorem d_Law_main_303 : decode M_Law_main.2.1 303 = .ok (.aload_n 0, 1) := by decide +kernel
theorem d_Law_main_304 : decode M_Law_main.2.1 304 = .ok (.iload 4, 2) := by decide +kernel
theorem d_Law_main_306 : decode M_Law_main.2.1 306 = .ok (.iconst 1, 1) := by decide +kernel
theorem d_Law_main_307 : decode M_Law_main.2.1 307 = .ok (.iadd, 1) := by decide +kernel
theorem d_Law_main_308 : decode M_Law_main.2.1 308 = .ok (.iaload, 1) := by decide +kernel
theorem d_Law_main_309 : decode M_Law_main.2.1 309 = .ok (.invokevirtual 121, 3) := by decide +kernel
theorem d_Law_main_312 : decode M_Law_main.2.1 312 = .ok (.istore 6, 2) := by decide +kernel
theorem d_Law_main_314 : decode M_Law_main.2.1 314 = .ok (.aload_n 2, 1) := by decide +kernel
theorem d_Law_main_315 : decode M_Law_main.2.1 315 = .ok (.invokevirtual 122, 3) := by decide +kernel
theorem d_Law_main_318 : decode M_Law_main.2.1 318 = .ok (.iload 5, 2) := by decide +kernel
theorem d_Law_main_320 : decode M_Law_main.2.1 320 = .ok (.if_icmp .eq 5, 3) := by decide +kernel
theorem d_Law_main_323 : decode M_Law_main.2.1 323 = .ok (.iconst 0, 1) := by decide +kernel
theorem d_Law_main_324 : decode M_Law_main.2.1 324 = .ok (.ireturn, 1) := by decide +kernel
theorem d_Law_main_325 : decode M_Law_main.2.1 325 = .ok (.iload 5, 2) := by decide +kernel
theorem d_Law_main_327 : decode M_Law_main.2.1 327 = .ok (.ifCond .ne 15, 3) := by decide +kernel
theorem d_Law_main_330 : decode M_Law_main.2.1 330 = .ok (.aload_n 3, 1) := by decide +kernel
theorem d_Law_main_331 : decode M_Law_main.2.1 331 = .ok (.iconst 0, 1) := by decide +kernel
theorem d_Law_main_332 : decode M_Law_main.2.1 332 = .ok (.laload, 1) := by decide +kernel
theorem d_Law_main_333 : decode M_Law_main.2.1 333 = .ok (.iload 6, 2) := by decide +kernel
theorem d_Law_main_335 : decode M_Law_main.2.1 335 = .ok (.i2l, 1) := by decide +kernel
theorem d_Law_main_336 : decode M_Law_main.2.1 336 = .ok (.lcmp, 1) := by decide +kernel
theorem d_Law_main_337 : decode M_Law_main.2.1 337 = .ok (.ifCond .eq 5, 3) := by decide +kernel
theorem d_Law_main_340 : decode M_Law_main.2.1 340 = .ok (.iconst 0, 1) := by decide +kernel
theorem d_Law_main_341 : decode M_Law_main.2.1 341 = .ok (.ireturn, 1) := by decide +kernel
theorem d_Law_main_342 : decode M_Law_main.2.1 342 = .ok (.goto 1971, 3) := by decide +kernel
theorem d_Law_main_345 : decode M_Law_main.2.1 345 = .ok (.aload_n 1, 1) := by decide +kernel
theorem d_Law_main_346 : decode M_Law_main.2.1 346 = .ok (.invokevirtual 126, 3) := by decide +kernel
theorem d_Law_main_349 : decode M_Law_main.2.1 349 = .ok (.aload_n 2, 1) := by decide +kernel
theorem d_Law_main_350 : decode M_Law_main.2.1 350 = .ok (.invokevirtual 129, 3) := by decide +kernel
theorem d_Law_main_353 : decode M_Law_main.2.1 353 = .ok (.if_icmp .eq 1960, 3) := by decide +kernel
theorem d_Law_main_356 : decode M_Law_main.2.1 356 = .ok (.iconst 0, 1) := by decide +kernel
theorem d_Law_main_357 : decode M_Law_main.2.1 357 = .ok (.ireturn, 1) := by decide +kernel
theorem d_Law_main_358 : decode M_Law_main.2.1 358 = .ok (.aload_n 1, 1) := by decide +kernel
theorem d_Law_main_359 : decode M_Law_main.2.1 359 = .ok (.aload_n 0, 1) := by decide +kernel
theorem d_Law_main_360 : decode M_Law_main.2.1 360 = .ok (.iload 4, 2) := by decide +kernel
theorem d_Law_main_362 : decode M_Law_main.2.1 362 = .ok (.iconst 1, 1) := by decide +kernel
theorem d_Law_main_363 : decode M_Law_main.2.1 363 = .ok (.iadd, 1) := by decide +kernel
theorem d_Law_main_364 : decode M_Law_main.2.1 364 = .ok (.iaload, 1) := by decide +kernel
theorem d_Law_main_365 : decode M_Law_main.2.1 365 = .ok (.aload_n 3, 1) := by decide +kernel
theorem d_Law_main_366 : decode M_Law_main.2.1 366 = .ok (.invokestatic 130, 3) := by decide +kernel
theorem d_Law_main_369 : decode M_Law_main.2.1 369 = .ok (.istore 5, 2) := by decide +kernel
theorem d_Law_main_371 : decode M_Law_main.2.1 371 = .ok (.aload_n 2, 1) := by decide +kernel
theorem d_Law_main_372 : decode M_Law_main.2.1 372 = .ok (.aload_n 0, 1) := by decide +kernel
theorem d_Law_main_373 : decode M_Law_main.2.1 373 = .ok (.iload 4, 2) := by decide +kernel
theorem d_Law_main_375 : decode M_Law_main.2.1 375 = .ok (.iconst 1, 1) := by decide +kernel
theorem d_Law_main_376 : decode M_Law_main.2.1 376 = .ok (.iadd, 1) := by decide +kernel
theorem d_Law_main_377 : decode M_Law_main.2.1 377 = .ok (.iaload, 1) := by decide +kernel
theorem d_Law_main_378 : decode M_Law_main.2.1 378 = .ok (.invokevirtual 132, 3) := by decide +kernel
theorem d_Law_main_381 : decode M_Law_main.2.1 381 = .ok (.istore 6, 2) := by decide +kernel
theorem d_Law_main_383 : decode M_Law_main.2.1 383 = .ok (.aload_n 2, 1) := by decide +kernel
theorem d_Law_main_384 : decode M_Law_main.2.1 384 = .ok (.invokevirtual 122, 3) := by decide +kernel
theorem d_Law_main_387 : decode M_Law_main.2.1 387 = .ok (.iload 5, 2) := by decide +kernel
theorem d_Law_main_389 : decode M_Law_main.2.1 389 = .ok (.if_icmp .eq 5, 3) := by decide +kernel
theorem d_Law_main_392 : decode M_Law_main.2.1 392 = .ok (.iconst 0, 1) := by decide +kernel
theorem d_Law_main_393 : decode M_Law_main.2.1 393 = .ok (.ireturn, 1) := by decide +kernel
theorem d_Law_main_394 : decode M_Law_main.2.1 394 = .ok (.iload 5, 2) := by decide +kernel
theorem d_Law_main_396 : decode M_Law_main.2.1 396 = .ok (.ifCond .ne 15, 3) := by decide +kernel
theorem d_Law_main_399 : decode M_Law_main.2.1 399 = .ok (.aload_n 3, 1) := by decide +kernel
theorem d_Law_main_400 : decode M_Law_main.2.1 400 = .ok (.iconst 0, 1) := by decide +kernel
theorem d_Law_main_401 : decode M_Law_main.2.1 401 = .ok (.laload, 1) := by decide +kernel
theorem d_Law_main_402 : decode M_Law_main.2.1 402 = .ok (.iload 6, 2) := by decide +kernel
theorem d_Law_main_404 : decode M_Law_main.2.1 404 = .ok (.i2l, 1) := by decide +kernel
theorem d_Law_main_405 : decode M_Law_main.2.1 405 = .ok (.lcmp, 1) := by decide +kernel
theorem d_Law_main_406 : decode M_Law_main.2.1 406 = .ok (.ifCond .eq 5, 3) := by decide +kernel
theorem d_Law_main_409 : decode M_Law_main.2.1 409 = .ok (.iconst 0, 1) := by decide +kernel
theorem d_Law_main_410 : decode M_Law_main.2.1 410 = .ok (.ireturn, 1) := by decide +kernel
theorem d_Law_main_411 : decode M_Law_main.2.1 411 = .ok (.goto 1902, 3) := by decide +kernel
theorem d_Law_main_414 : decode M_Law_main.2.1 414 = .ok (.aload_n 1, 1) := by decide +kernel
theorem d_Law_main_415 : decode M_Law_main.2.1 415 = .ok (.aload_n 0, 1) := by decide +kernel
theorem d_Law_main_416 : decode M_Law_main.2.1 416 = .ok (.iload 4, 2) := by decide +kernel
theorem d_Law_main_418 : decode M_Law_main.2.1 418 = .ok (.iconst 1, 1) := by decide +kernel
theorem d_Law_main_419 : decode M_Law_main.2.1 419 = .ok (.iadd, 1) := by decide +kernel
theorem d_Law_main_420 : decode M_Law_main.2.1 420 = .ok (.iaload, 1) := by decide +kernel
theorem d_Law_main_421 : decode M_Law_main.2.1 421 = .ok (.aload_n 0, 1) := by decide +kernel
theorem d_Law_main_422 : decode M_Law_main.2.1 422 = .ok (.iload 4, 2) := by decide +kernel
theorem d_Law_main_424 : decode M_Law_main.2.1 424 = .ok (.iconst 2, 1) := by decide +kernel
theorem d_Law_main_425 : decode M_Law_main.2.1 425 = .ok (.iadd, 1) := by decide +kernel
theorem d_Law_main_426 : decode M_Law_main.2.1 426 = .ok (.iaload, 1) := by decide +kernel
theorem d_Law_main_427 : decode M_Law_main.2.1 427 = .ok (.aload_n 3, 1) := by decide +kernel
theorem d_Law_main_428 : decode M_Law_main.2.1 428 = .ok (.invokestatic 133, 3) := by decide +kernel
theorem d_Law_main_431 : decode M_Law_main.2.1 431 = .ok (.istore 5, 2) := by decide +kernel
theorem d_Law_main_433 : decode M_Law_main.2.1 433 = .ok (.aload_n 2, 1) := by decide +kernel
theorem d_Law_main_434 : decode M_Law_main.2.1 434 = .ok (.aload_n 0, 1) := by decide +kernel
theorem d_Law_main_435 : decode M_Law_main.2.1 435 = .ok (.iload 4, 2) := by decide +kernel
theorem d_Law_main_437 : decode M_Law_main.2.1 437 = .ok (.iconst 1, 1) := by decide +kernel
theorem d_Law_main_438 : decode M_Law_main.2.1 438 = .ok (.iadd, 1) := by decide +kernel
theorem d_Law_main_439 : decode M_Law_main.2.1 439 = .ok (.iaload, 1) := by decide +kernel
theorem d_Law_main_440 : decode M_Law_main.2.1 440 = .ok (.aload_n 0, 1) := by decide +kernel
theorem d_Law_main_441 : decode M_Law_main.2.1 441 = .ok (.iload 4, 2) := by decide +kernel
theorem d_Law_main_443 : decode M_Law_main.2.1 443 = .ok (.iconst 2, 1) := by decide +kernel
theorem d_Law_main_444 : decode M_Law_main.2.1 444 = .ok (.iadd, 1) := by decide +kernel
theorem d_Law_main_445 : decode M_Law_main.2.1 445 = .ok (.iaload, 1) := by decide +kernel
theorem d_Law_main_446 : decode M_Law_main.2.1 446 = .ok (.invokevirtual 136, 3) := by decide +kernel
theorem d_Law_main_449 : decode M_Law_main.2.1 449 = .ok (.istore 6, 2) := by decide +kernel
theorem d_Law_main_451 : decode M_Law_main.2.1 451 = .ok (.aload_n 2, 1) := by decide +kernel
theorem d_Law_main_452 : decode M_Law_main.2.1 452 = .ok (.invokevirtual 122, 3) := by decide +kernel
theorem d_Law_main_455 : decode M_Law_main.2.1 455 = .ok (.iload 5, 2) := by decide +kernel
theorem d_Law_main_457 : decode M_Law_main.2.1 457 = .ok (.if_icmp .eq 5, 3) := by decide +kernel
theorem d_Law_main_460 : decode M_Law_main.2.1 460 = .ok (.iconst 0, 1) := by decide +kernel
theorem d_Law_main_461 : decode M_Law_main.2.1 461 = .ok (.ireturn, 1) := by decide +kernel
theorem d_Law_main_462 : decode M_Law_main.2.1 462 = .ok (.iload 5, 2) := by decide +kernel
theorem d_Law_main_464 : decode M_Law_main.2.1 464 = .ok (.ifCond .ne 15, 3) := by decide +kernel
theorem d_Law_main_467 : decode M_Law_main.2.1 467 = .ok (.aload_n 3, 1) := by decide +kernel
theorem d_Law_main_468 : decode M_Law_main.2.1 468 = .ok (.iconst 0, 1) := by decide +kernel
theorem d_Law_main_469 : decode M_Law_main.2.1 469 = .ok (.laload, 1) := by decide +kernel
theorem d_Law_main_470 : decode M_Law_main.2.1 470 = .ok (.iload 6, 2) := by decide +kernel
theorem d_Law_main_472 : decode M_Law_main.2.1 472 = .ok (.i2l, 1) := by decide +kernel
theorem d_Law_main_473 : decode M_Law_main.2.1 473 = .ok (.lcmp, 1) := by decide +kernel
theorem d_Law_main_474 : decode M_Law_main.2.1 474 = .ok (.ifCond .eq 5, 3) := by decide +kernel
theorem d_Law_main_477 : decode M_Law_main.2.1 477 = .ok (.iconst 0, 1) := by decide +kernel
theorem d_Law_main_478 : decode M_Law_main.2.1 478 = .ok (.ireturn, 1) := by decide +kernel
theorem d_Law_main_479 : decode M_Law_main.2.1 479 = .ok (.goto 1834, 3) := by decide +kernel
theorem d_Law_main_482 : decode M_Law_main.2.1 482 = .ok (.aload_n 1, 1) := by decide +kernel
theorem d_Law_main_483 : decode M_Law_main.2.1 483 = .ok (.aload_n 0, 1) := by decide +kernel
theorem d_Law_main_484 : decode M_Law_main.2.1 484 = .ok (.iload 4, 2) := by decide +kernel
theorem d_Law_main_486 : decode M_Law_main.2.1 486 = .ok (.iconst 1, 1) := by decide +kernel
theorem d_Law_main_487 : decode M_Law_main.2.1 487 = .ok (.iadd, 1) := by decide +kernel
theorem d_Law_main_488 : decode M_Law_main.2.1 488 = .ok (.iaload, 1) := by decide +kernel
theorem d_Law_main_489 : decode M_Law_main.2.1 489 = .ok (.aload_n 0, 1) := by decide +kernel
theorem d_Law_main_490 : decode M_Law_main.2.1 490 = .ok (.iload 4, 2) := by decide +kernel
theorem d_Law_main_492 : decode M_Law_main.2.1 492 = .ok (.iconst 2, 1) := by decide +kernel
theorem d_Law_main_493 : decode M_Law_main.2.1 493 = .ok (.iadd, 1) := by decide +kernel
theorem d_Law_main_494 : decode M_Law_main.2.1 494 = .ok (.iaload, 1) := by decide +kernel
theorem d_Law_main_495 : decode M_Law_main.2.1 495 = .ok (.aload_n 3, 1) := by decide +kernel
theorem d_Law_main_496 : decode M_Law_main.2.1 496 = .ok (.invokestatic 137, 3) := by decide +kernel
theorem d_Law_main_499 : decode M_Law_main.2.1 499 = .ok (.istore 5, 2) := by decide +kernel
theorem d_Law_main_501 : decode M_Law_main.2.1 501 = .ok (.aload_n 2, 1) := by decide +kernel
theorem d_Law_main_502 : decode M_Law_main.2.1 502 = .ok (.aload_n 0, 1) := by decide +kernel
theorem d_Law_main_503 : decode M_Law_main.2.1 503 = .ok (.iload 4, 2) := by decide +kernel
theorem d_Law_main_505 : decode M_Law_main.2.1 505 = .ok (.iconst 1, 1) := by decide +kernel
theorem d_Law_main_506 : decode M_Law_main.2.1 506 = .ok (.iadd, 1) := by decide +kernel
theorem d_Law_main_507 : decode M_Law_main.2.1 507 = .ok (.iaload, 1) := by decide +kernel
theorem d_Law_main_508 : decode M_Law_main.2.1 508 = .ok (.aload_n 0, 1) := by decide +kernel
theorem d_Law_main_509 : decode M_Law_main.2.1 509 = .ok (.iload 4, 2) := by decide +kernel
theorem d_Law_main_511 : decode M_Law_main.2.1 511 = .ok (.iconst 2, 1) := by decide +kernel
theorem d_Law_main_512 : decode M_Law_main.2.1 512 = .ok (.iadd, 1) := by decide +kernel
theorem d_Law_main_513 : decode M_Law_main.2.1 513 = .ok (.iaload, 1) := by decide +kernel
theorem d_Law_main_514 : decode M_Law_main.2.1 514 = .ok (.invokevirtual 139, 3) := by decide +kernel
theorem d_Law_main_517 : decode M_Law_main.2.1 517 = .ok (.istore 6, 2) := by decide +kernel
theorem d_Law_main_519 : decode M_Law_main.2.1 519 = .ok (.aload_n 2, 1) := by decide +kernel
theorem d_Law_main_520 : decode M_Law_main.2.1 520 = .ok (.invokevirtual 122, 3) := by decide +kernel
theorem d_Law_main_523 : decode M_Law_main.2.1 523 = .ok (.iload 5, 2) := by decide +kernel
theorem d_Law_main_525 : decode M_Law_main.2.1 525 = .ok (.if_icmp .eq 5, 3) := by decide +kernel
theorem d_Law_main_528 : decode M_Law_main.2.1 528 = .ok (.iconst 0, 1) := by decide +kernel
theorem d_Law_main_529 : decode M_Law_main.2.1 529 = .ok (.ireturn, 1) := by decide +kernel
theorem d_Law_main_530 : decode M_Law_main.2.1 530 = .ok (.iload 5, 2) := by decide +kernel
theorem d_Law_main_532 : decode M_Law_main.2.1 532 = .ok (.ifCond .ne 15, 3) := by decide +kernel
theorem d_Law_main_535 : decode M_Law_main.2.1 535 = .ok (.aload_n 3, 1) := by decide +kernel
theorem d_Law_main_536 : decode M_Law_main.2.1 536 = .ok (.iconst 0, 1) := by decide +kernel
theorem d_Law_main_537 : decode M_Law_main.2.1 537 = .ok (.laload, 1) := by decide +kernel
theorem d_Law_main_538 : decode M_Law_main.2.1 538 = .ok (.iload 6, 2) := by decide +kernel
theorem d_Law_main_540 : decode M_Law_main.2.1 540 = .ok (.i2l, 1) := by decide +kernel
theorem d_Law_main_541 : decode M_Law_main.2.1 541 = .ok (.lcmp, 1) := by decide +kernel
theorem d_Law_main_542 : decode M_Law_main.2.1 542 = .ok (.ifCond .eq 5, 3) := by decide +kernel
theorem d_Law_main_545 : decode M_Law_main.2.1 545 = .ok (.iconst 0, 1) := by decide +kernel
theorem d_Law_main_546 : decode M_Law_main.2.1 546 = .ok (.ireturn, 1) := by decide +kernel
theorem d_Law_main_547 : decode M_Law_main.2.1 547 = .ok (.goto 1766, 3) := by decide +kernel
theorem d_Law_main_550 : decode M_Law_main.2.1 550 = .ok (.aload_n 1, 1) := by decide +kernel
theorem d_Law_main_551 : decode M_Law_main.2.1 551 = .ok (.aload_n 0, 1) := by decide +kernel
theorem d_Law_main_552 : decode M_Law_main.2.1 552 = .ok (.iload 4, 2) := by decide +kernel
theorem d_Law_main_554 : decode M_Law_main.2.1 554 = .ok (.iconst 1, 1) := by decide +kernel
theorem d_Law_main_555 : decode M_Law_main.2.1 555 = .ok (.iadd, 1) := by decide +kernel
theorem d_Law_main_556 : decode M_Law_main.2.1 556 = .ok (.iaload, 1) := by decide +kernel
theorem d_Law_main_557 : decode M_Law_main.2.1 557 = .ok (.aload_n 3, 1) := by decide +kernel
theorem d_Law_main_558 : decode M_Law_main.2.1 558 = .ok (.invokestatic 140, 3) := by decide +kernel
theorem d_Law_main_561 : decode M_Law_main.2.1 561 = .ok (.istore 5, 2) := by decide +kernel
theorem d_Law_main_563 : decode M_Law_main.2.1 563 = .ok (.aload_n 2, 1) := by decide +kernel
theorem d_Law_main_564 : decode M_Law_main.2.1 564 = .ok (.aload_n 0, 1) := by decide +kernel
theorem d_Law_main_565 : decode M_Law_main.2.1 565 = .ok (.iload 4, 2) := by decide +kernel
theorem d_Law_main_567 : decode M_Law_main.2.1 567 = .ok (.iconst 1, 1) := by decide +kernel
theorem d_Law_main_568 : decode M_Law_main.2.1 568 = .ok (.iadd, 1) := by decide +kernel
theorem d_Law_main_569 : decode M_Law_main.2.1 569 = .ok (.iaload, 1) := by decide +kernel
theorem d_Law_main_570 : decode M_Law_main.2.1 570 = .ok (.invokevirtual 142, 3) := by decide +kernel
theorem d_Law_main_573 : decode M_Law_main.2.1 573 = .ok (.istore 6, 2) := by decide +kernel
theorem d_Law_main_575 : decode M_Law_main.2.1 575 = .ok (.aload_n 2, 1) := by decide +kernel
theorem d_Law_main_576 : decode M_Law_main.2.1 576 = .ok (.invokevirtual 122, 3) := by decide +kernel
theorem d_Law_main_579 : decode M_Law_main.2.1 579 = .ok (.iload 5, 2) := by decide +kernel
theorem d_Law_main_581 : decode M_Law_main.2.1 581 = .ok (.if_icmp .eq 5, 3) := by decide +kernel
theorem d_Law_main_584 : decode M_Law_main.2.1 584 = .ok (.iconst 0, 1) := by decide +kernel
theorem d_Law_main_585 : decode M_Law_main.2.1 585 = .ok (.ireturn, 1) := by decide +kernel
theorem d_Law_main_586 : decode M_Law_main.2.1 586 = .ok (.iload 5, 2) := by decide +kernel
theorem d_Law_main_588 : decode M_Law_main.2.1 588 = .ok (.ifCond .ne 15, 3) := by decide +kernel
theorem d_Law_main_591 : decode M_Law_main.2.1 591 = .ok (.aload_n 3, 1) := by decide +kernel
theorem d_Law_main_592 : decode M_Law_main.2.1 592 = .ok (.iconst 0, 1) := by decide +kernel
theorem d_Law_main_593 : decode M_Law_main.2.1 593 = .ok (.laload, 1) := by decide +kernel
theorem d_Law_main_594 : decode M_Law_main.2.1 594 = .ok (.iload 6, 2) := by decide +kernel
theorem d_Law_main_596 : decode M_Law_main.2.1 596 = .ok (.i2l, 1) := by decide +kernel
theorem d_Law_main_597 : decode M_Law_main.2.1 597 = .ok (.lcmp, 1) := by decide +kernel
theorem d_Law_main_598 : decode M_Law_main.2.1 598 = .ok (.ifCond .eq 5, 3) := by decide +kernel
theorem d_Law_main_601 : decode M_Law_main.2.1 601 = .ok (.iconst 0, 1) := by decide +kernel
theorem d_Law_main_602 : decode M_Law_main.2.1 602 = .ok (.ireturn, 1) := by decide +kernel
theorem d_Law_main_603 : decode M_Law_main.2.1 603 = .ok (.goto 1710, 3) := by decide +kernel
theorem d_Law_main_606 : decode M_Law_main.2.1 606 = .ok (.aload_n 1, 1) := by decide +kernel
theorem d_Law_main_607 : decode M_Law_main.2.1 607 = .ok (.aload_n 0, 1) := by decide +kernel
theorem d_Law_main_608 : decode M_Law_main.2.1 608 = .ok (.iload 4, 2) := by decide +kernel
theorem d_Law_main_610 : decode M_Law_main.2.1 610 = .ok (.iconst 1, 1) := by decide +kernel
theorem d_Law_main_611 : decode M_Law_main.2.1 611 = .ok (.iadd, 1) := by decide +kernel
theorem d_Law_main_612 : decode M_Law_main.2.1 612 = .ok (.iaload, 1) := by decide +kernel
theorem d_Law_main_613 : decode M_Law_main.2.1 613 = .ok (.aload_n 0, 1) := by decide +kernel
theorem d_Law_main_614 : decode M_Law_main.2.1 614 = .ok (.iload 4, 2) := by decide +kernel
theorem d_Law_main_616 : decode M_Law_main.2.1 616 = .ok (.iconst 2, 1) := by decide +kernel
theorem d_Law_main_617 : decode M_Law_main.2.1 617 = .ok (.iadd, 1) := by decide +kernel
theorem d_Law_main_618 : decode M_Law_main.2.1 618 = .ok (.iaload, 1) := by decide +kernel
theorem d_Law_main_619 : decode M_Law_main.2.1 619 = .ok (.aload_n 3, 1) := by decide +kernel
theorem d_Law_main_620 : decode M_Law_main.2.1 620 = .ok (.invokestatic 143, 3) := by decide +kernel
theorem d_Law_main_623 : decode M_Law_main.2.1 623 = .ok (.istore 5, 2) := by decide +kernel
theorem d_Law_main_625 : decode M_Law_main.2.1 625 = .ok (.aload_n 2, 1) := by decide +kernel
theorem d_Law_main_626 : decode M_Law_main.2.1 626 = .ok (.aload_n 0, 1) := by decide +kernel
theorem d_Law_main_627 : decode M_Law_main.2.1 627 = .ok (.iload 4, 2) := by decide +kernel
theorem d_Law_main_629 : decode M_Law_main.2.1 629 = .ok (.iconst 1, 1) := by decide +kernel
theorem d_Law_main_630 : decode M_Law_main.2.1 630 = .ok (.iadd, 1) := by decide +kernel
theorem d_Law_main_631 : decode M_Law_main.2.1 631 = .ok (.iaload, 1) := by decide +kernel
theorem d_Law_main_632 : decode M_Law_main.2.1 632 = .ok (.aload_n 0, 1) := by decide +kernel
theorem d_Law_main_633 : decode M_Law_main.2.1 633 = .ok (.iload 4, 2) := by decide +kernel
theorem d_Law_main_635 : decode M_Law_main.2.1 635 = .ok (.iconst 2, 1) := by decide +kernel
theorem d_Law_main_636 : decode M_Law_main.2.1 636 = .ok (.iadd, 1) := by decide +kernel
theorem d_Law_main_637 : decode M_Law_main.2.1 637 = .ok (.iaload, 1) := by decide +kernel
theorem d_Law_main_638 : decode M_Law_main.2.1 638 = .ok (.invokevirtual 145, 3) := by decide +kernel
theorem d_Law_main_641 : decode M_Law_main.2.1 641 = .ok (.istore 6, 2) := by decide +kernel
theorem d_Law_main_643 : decode M_Law_main.2.1 643 = .ok (.aload_n 2, 1) := by decide +kernel
theorem d_Law_main_644 : decode M_Law_main.2.1 644 = .ok (.invokevirtual 122, 3) := by decide +kernel
theorem d_Law_main_647 : decode M_Law_main.2.1 647 = .ok (.iload 5, 2) := by decide +kernel
theorem d_Law_main_649 : decode M_Law_main.2.1 649 = .ok (.if_icmp .eq 5, 3) := by decide +kernel
theorem d_Law_main_652 : decode M_Law_main.2.1 652 = .ok (.iconst 0, 1) := by decide +kernel
theorem d_Law_main_653 : decode M_Law_main.2.1 653 = .ok (.ireturn, 1) := by decide +kernel
theorem d_Law_main_654 : decode M_Law_main.2.1 654 = .ok (.iload 5, 2) := by decide +kernel
theorem d_Law_main_656 : decode M_Law_main.2.1 656 = .ok (.ifCond .ne 22, 3) := by decide +kernel
theorem d_Law_main_659 : decode M_Law_main.2.1 659 = .ok (.aload_n 3, 1) := by decide +kernel
theorem d_Law_main_660 : decode M_Law_main.2.1 660 = .ok (.iconst 0, 1) := by decide +kernel
theorem d_Law_main_661 : decode M_Law_main.2.1 661 = .ok (.laload, 1) := by decide +kernel
theorem d_Law_main_662 : decode M_Law_main.2.1 662 = .ok (.iload 6, 2) := by decide +kernel
theorem d_Law_main_664 : decode M_Law_main.2.1 664 = .ok (.ifCond .eq 7, 3) := by decide +kernel
theorem d_Law_main_667 : decode M_Law_main.2.1 667 = .ok (.lconst 1, 1) := by decide +kernel
theorem d_Law_main_668 : decode M_Law_main.2.1 668 = .ok (.goto 4, 3) := by decide +kernel
theorem d_Law_main_671 : decode M_Law_main.2.1 671 = .ok (.lconst 0, 1) := by decide +kernel
theorem d_Law_main_672 : decode M_Law_main.2.1 672 = .ok (.lcmp, 1) := by decide +kernel
theorem d_Law_main_673 : decode M_Law_main.2.1 673 = .ok (.ifCond .eq 5, 3) := by decide +kernel
theorem d_Law_main_676 : decode M_Law_main.2.1 676 = .ok (.iconst 0, 1) := by decide +kernel
theorem d_Law_main_677 : decode M_Law_main.2.1 677 = .ok (.ireturn, 1) := by decide +kernel
theorem d_Law_main_678 : decode M_Law_main.2.1 678 = .ok (.goto 1635, 3) := by decide +kernel
theorem d_Law_main_681 : decode M_Law_main.2.1 681 = .ok (.aload_n 1, 1) := by decide +kernel
theorem d_Law_main_682 : decode M_Law_main.2.1 682 = .ok (.aload_n 0, 1) := by decide +kernel
theorem d_Law_main_683 : decode M_Law_main.2.1 683 = .ok (.iload 4, 2) := by decide +kernel
theorem d_Law_main_685 : decode M_Law_main.2.1 685 = .ok (.iconst 1, 1) := by decide +kernel
theorem d_Law_main_686 : decode M_Law_main.2.1 686 = .ok (.iadd, 1) := by decide +kernel
theorem d_Law_main_687 : decode M_Law_main.2.1 687 = .ok (.iaload, 1) := by decide +kernel
theorem d_Law_main_688 : decode M_Law_main.2.1 688 = .ok (.invokevirtual 146, 3) := by decide +kernel
theorem d_Law_main_691 : decode M_Law_main.2.1 691 = .ok (.aload_n 2, 1) := by decide +kernel
theorem d_Law_main_692 : decode M_Law_main.2.1 692 = .ok (.aload_n 0, 1) := by decide +kernel
theorem d_Law_main_693 : decode M_Law_main.2.1 693 = .ok (.iload 4, 2) := by decide +kernel
theorem d_Law_main_695 : decode M_Law_main.2.1 695 = .ok (.iconst 1, 1) := by decide +kernel
theorem d_Law_main_696 : decode M_Law_main.2.1 696 = .ok (.iadd, 1) := by decide +kernel
theorem d_Law_main_697 : decode M_Law_main.2.1 697 = .ok (.iaload, 1) := by decide +kernel
theorem d_Law_main_698 : decode M_Law_main.2.1 698 = .ok (.invokevirtual 149, 3) := by decide +kernel
theorem d_Law_main_701 : decode M_Law_main.2.1 701 = .ok (.if_icmp .eq 1612, 3) := by decide +kernel
theorem d_Law_main_704 : decode M_Law_main.2.1 704 = .ok (.iconst 0, 1) := by decide +kernel
theorem d_Law_main_705 : decode M_Law_main.2.1 705 = .ok (.ireturn, 1) := by decide +kernel
theorem d_Law_main_706 : decode M_Law_main.2.1 706 = .ok (.aload_n 1, 1) := by decide +kernel
theorem d_Law_main_707 : decode M_Law_main.2.1 707 = .ok (.aload_n 0, 1) := by decide +kernel
theorem d_Law_main_708 : decode M_Law_main.2.1 708 = .ok (.iload 4, 2) := by decide +kernel
theorem d_Law_main_710 : decode M_Law_main.2.1 710 = .ok (.iconst 1, 1) := by decide +kernel
theorem d_Law_main_711 : decode M_Law_main.2.1 711 = .ok (.iadd, 1) := by decide +kernel
theorem d_Law_main_712 : decode M_Law_main.2.1 712 = .ok (.iaload, 1) := by decide +kernel
theorem d_Law_main_713 : decode M_Law_main.2.1 713 = .ok (.aload_n 0, 1) := by decide +kernel
theorem d_Law_main_714 : decode M_Law_main.2.1 714 = .ok (.iload 4, 2) := by decide +kernel
theorem d_Law_main_716 : decode M_Law_main.2.1 716 = .ok (.iconst 2, 1) := by decide +kernel
theorem d_Law_main_717 : decode M_Law_main.2.1 717 = .ok (.iadd, 1) := by decide +kernel
theorem d_Law_main_718 : decode M_Law_main.2.1 718 = .ok (.iaload, 1) := by decide +kernel
theorem d_Law_main_719 : decode M_Law_main.2.1 719 = .ok (.aload_n 0, 1) := by decide +kernel
theorem d_Law_main_720 : decode M_Law_main.2.1 720 = .ok (.iload 4, 2) := by decide +kernel
theorem d_Law_main_722 : decode M_Law_main.2.1 722 = .ok (.iconst 3, 1) := by decide +kernel
theorem d_Law_main_723 : decode M_Law_main.2.1 723 = .ok (.iadd, 1) := by decide +kernel
theorem d_Law_main_724 : decode M_Law_main.2.1 724 = .ok (.iaload, 1) := by decide +kernel
theorem d_Law_main_725 : decode M_Law_main.2.1 725 = .ok (.aload_n 0, 1) := by decide +kernel
theorem d_Law_main_726 : decode M_Law_main.2.1 726 = .ok (.iload 4, 2) := by decide +kernel
theorem d_Law_main_728 : decode M_Law_main.2.1 728 = .ok (.iconst 4, 1) := by decide +kernel
theorem d_Law_main_729 : decode M_Law_main.2.1 729 = .ok (.iadd, 1) := by decide +kernel
theorem d_Law_main_730 : decode M_Law_main.2.1 730 = .ok (.iaload, 1) := by decide +kernel
theorem d_Law_main_731 : decode M_Law_main.2.1 731 = .ok (.aload_n 3, 1) := by decide +kernel
theorem d_Law_main_732 : decode M_Law_main.2.1 732 = .ok (.invokestatic 150, 3) := by decide +kernel
theorem d_Law_main_735 : decode M_Law_main.2.1 735 = .ok (.istore 5, 2) := by decide +kernel
theorem d_Law_main_737 : decode M_Law_main.2.1 737 = .ok (.aload_n 2, 1) := by decide +kernel
theorem d_Law_main_738 : decode M_Law_main.2.1 738 = .ok (.aload_n 0, 1) := by decide +kernel
theorem d_Law_main_739 : decode M_Law_main.2.1 739 = .ok (.iload 4, 2) := by decide +kernel
theorem d_Law_main_741 : decode M_Law_main.2.1 741 = .ok (.iconst 1, 1) := by decide +kernel
theorem d_Law_main_742 : decode M_Law_main.2.1 742 = .ok (.iadd, 1) := by decide +kernel
theorem d_Law_main_743 : decode M_Law_main.2.1 743 = .ok (.iaload, 1) := by decide +kernel
theorem d_Law_main_744 : decode M_Law_main.2.1 744 = .ok (.aload_n 0, 1) := by decide +kernel
theorem d_Law_main_745 : decode M_Law_main.2.1 745 = .ok (.iload 4, 2) := by decide +kernel
theorem d_Law_main_747 : decode M_Law_main.2.1 747 = .ok (.iconst 2, 1) := by decide +kernel
theorem d_Law_main_748 : decode M_Law_main.2.1 748 = .ok (.iadd, 1) := by decide +kernel
theorem d_Law_main_749 : decode M_Law_main.2.1 749 = .ok (.iaload, 1) := by decide +kernel
theorem d_Law_main_750 : decode M_Law_main.2.1 750 = .ok (.aload_n 0, 1) := by decide +kernel
theorem d_Law_main_751 : decode M_Law_main.2.1 751 = .ok (.iload 4, 2) := by decide +kernel
theorem d_Law_main_753 : decode M_Law_main.2.1 753 = .ok (.iconst 3, 1) := by decide +kernel
theorem d_Law_main_754 : decode M_Law_main.2.1 754 = .ok (.iadd, 1) := by decide +kernel
theorem d_Law_main_755 : decode M_Law_main.2.1 755 = .ok (.iaload, 1) := by decide +kernel
theorem d_Law_main_756 : decode M_Law_main.2.1 756 = .ok (.aload_n 0, 1) := by decide +kernel
theorem d_Law_main_757 : decode M_Law_main.2.1 757 = .ok (.iload 4, 2) := by decide +kernel
theorem d_Law_main_759 : decode M_Law_main.2.1 759 = .ok (.iconst 4, 1) := by decide +kernel
theorem d_Law_main_760 : decode M_Law_main.2.1 760 = .ok (.iadd, 1) := by decide +kernel
theorem d_Law_main_761 : decode M_Law_main.2.1 761 = .ok (.iaload, 1) := by decide +kernel
theorem d_Law_main_762 : decode M_Law_main.2.1 762 = .ok (.invokevirtual 153, 3) := by decide +kernel
theorem d_Law_main_765 : decode M_Law_main.2.1 765 = .ok (.istore 6, 2) := by decide +kernel
theorem d_Law_main_767 : decode M_Law_main.2.1 767 = .ok (.aload_n 2, 1) := by decide +kernel
theorem d_Law_main_768 : decode M_Law_main.2.1 768 = .ok (.invokevirtual 122, 3) := by decide +kernel
theorem d_Law_main_771 : decode M_Law_main.2.1 771 = .ok (.iload 5, 2) := by decide +kernel
theorem d_Law_main_773 : decode M_Law_main.2.1 773 = .ok (.if_icmp .eq 5, 3) := by decide +kernel
theorem d_Law_main_776 : decode M_Law_main.2.1 776 = .ok (.iconst 0, 1) := by decide +kernel
theorem d_Law_main_777 : decode M_Law_main.2.1 777 = .ok (.ireturn, 1) := by decide +kernel
theorem d_Law_main_778 : decode M_Law_main.2.1 778 = .ok (.iload 5, 2) := by decide +kernel
theorem d_Law_main_780 : decode M_Law_main.2.1 780 = .ok (.ifCond .ne 15, 3) := by decide +kernel
theorem d_Law_main_783 : decode M_Law_main.2.1 783 = .ok (.aload_n 3, 1) := by decide +kernel
theorem d_Law_main_784 : decode M_Law_main.2.1 784 = .ok (.iconst 0, 1) := by decide +kernel
theorem d_Law_main_785 : decode M_Law_main.2.1 785 = .ok (.laload, 1) := by decide +kernel
theorem d_Law_main_786 : decode M_Law_main.2.1 786 = .ok (.iload 6, 2) := by decide +kernel
theorem d_Law_main_788 : decode M_Law_main.2.1 788 = .ok (.i2l, 1) := by decide +kernel
theorem d_Law_main_789 : decode M_Law_main.2.1 789 = .ok (.lcmp, 1) := by decide +kernel
theorem d_Law_main_790 : decode M_Law_main.2.1 790 = .ok (.ifCond .eq 5, 3) := by decide +kernel
theorem d_Law_main_793 : decode M_Law_main.2.1 793 = .ok (.iconst 0, 1) := by decide +kernel
theorem d_Law_main_794 : decode M_Law_main.2.1 794 = .ok (.ireturn, 1) := by decide +kernel
theorem d_Law_main_795 : decode M_Law_main.2.1 795 = .ok (.goto 1518, 3) := by decide +kernel
theorem d_Law_main_798 : decode M_Law_main.2.1 798 = .ok (.aload_n 1, 1) := by decide +kernel
theorem d_Law_main_799 : decode M_Law_main.2.1 799 = .ok (.aload_n 0, 1) := by decide +kernel
theorem d_Law_main_800 : decode M_Law_main.2.1 800 = .ok (.iload 4, 2) := by decide +kernel
theorem d_Law_main_802 : decode M_Law_main.2.1 802 = .ok (.iconst 1, 1) := by decide +kernel
theorem d_Law_main_803 : decode M_Law_main.2.1 803 = .ok (.iadd, 1) := by decide +kernel
theorem d_Law_main_804 : decode M_Law_main.2.1 804 = .ok (.iaload, 1) := by decide +kernel
theorem d_Law_main_805 : decode M_Law_main.2.1 805 = .ok (.aload_n 0, 1) := by decide +kernel
theorem d_Law_main_806 : decode M_Law_main.2.1 806 = .ok (.iload 4, 2) := by decide +kernel
theorem d_Law_main_808 : decode M_Law_main.2.1 808 = .ok (.iconst 2, 1) := by decide +kernel
theorem d_Law_main_809 : decode M_Law_main.2.1 809 = .ok (.iadd, 1) := by decide +kernel
theorem d_Law_main_810 : decode M_Law_main.2.1 810 = .ok (.iaload, 1) := by decide +kernel
theorem d_Law_main_811 : decode M_Law_main.2.1 811 = .ok (.aload_n 3, 1) := by decide +kernel
theorem d_Law_main_812 : decode M_Law_main.2.1 812 = .ok (.invokestatic 154, 3) := by decide +kernel
theorem d_Law_main_815 : decode M_Law_main.2.1 815 = .ok (.istore 5, 2) := by decide +kernel
theorem d_Law_main_817 : decode M_Law_main.2.1 817 = .ok (.aload_n 2, 1) := by decide +kernel
theorem d_Law_main_818 : decode M_Law_main.2.1 818 = .ok (.aload_n 0, 1) := by decide +kernel
theorem d_Law_main_819 : decode M_Law_main.2.1 819 = .ok (.iload 4, 2) := by decide +kernel
theorem d_Law_main_821 : decode M_Law_main.2.1 821 = .ok (.iconst 1, 1) := by decide +kernel
theorem d_Law_main_822 : decode M_Law_main.2.1 822 = .ok (.iadd, 1) := by decide +kernel
theorem d_Law_main_823 : decode M_Law_main.2.1 823 = .ok (.iaload, 1) := by decide +kernel
theorem d_Law_main_824 : decode M_Law_main.2.1 824 = .ok (.aload_n 0, 1) := by decide +kernel
theorem d_Law_main_825 : decode M_Law_main.2.1 825 = .ok (.iload 4, 2) := by decide +kernel
theorem d_Law_main_827 : decode M_Law_main.2.1 827 = .ok (.iconst 2, 1) := by decide +kernel
theorem d_Law_main_828 : decode M_Law_main.2.1 828 = .ok (.iadd, 1) := by decide +kernel
theorem d_Law_main_829 : decode M_Law_main.2.1 829 = .ok (.iaload, 1) := by decide +kernel
theorem d_Law_main_830 : decode M_Law_main.2.1 830 = .ok (.invokevirtual 156, 3) := by decide +kernel
theorem d_Law_main_833 : decode M_Law_main.2.1 833 = .ok (.istore 6, 2) := by decide +kernel
theorem d_Law_main_835 : decode M_Law_main.2.1 835 = .ok (.aload_n 2, 1) := by decide +kernel
theorem d_Law_main_836 : decode M_Law_main.2.1 836 = .ok (.invokevirtual 122, 3) := by decide +kernel
theorem d_Law_main_839 : decode M_Law_main.2.1 839 = .ok (.iload 5, 2) := by decide +kernel
theorem d_Law_main_841 : decode M_Law_main.2.1 841 = .ok (.if_icmp .eq 5, 3) := by decide +kernel
theorem d_Law_main_844 : decode M_Law_main.2.1 844 = .ok (.iconst 0, 1) := by decide +kernel
theorem d_Law_main_845 : decode M_Law_main.2.1 845 = .ok (.ireturn, 1) := by decide +kernel
theorem d_Law_main_846 : decode M_Law_main.2.1 846 = .ok (.iload 5, 2) := by decide +kernel
theorem d_Law_main_848 : decode M_Law_main.2.1 848 = .ok (.ifCond .ne 15, 3) := by decide +kernel
theorem d_Law_main_851 : decode M_Law_main.2.1 851 = .ok (.aload_n 3, 1) := by decide +kernel
theorem d_Law_main_852 : decode M_Law_main.2.1 852 = .ok (.iconst 0, 1) := by decide +kernel
theorem d_Law_main_853 : decode M_Law_main.2.1 853 = .ok (.laload, 1) := by decide +kernel
theorem d_Law_main_854 : decode M_Law_main.2.1 854 = .ok (.iload 6, 2) := by decide +kernel
theorem d_Law_main_856 : decode M_Law_main.2.1 856 = .ok (.i2l, 1) := by decide +kernel
theorem d_Law_main_857 : decode M_Law_main.2.1 857 = .ok (.lcmp, 1) := by decide +kernel
theorem d_Law_main_858 : decode M_Law_main.2.1 858 = .ok (.ifCond .eq 5, 3) := by decide +kernel
theorem d_Law_main_861 : decode M_Law_main.2.1 861 = .ok (.iconst 0, 1) := by decide +kernel
theorem d_Law_main_862 : decode M_Law_main.2.1 862 = .ok (.ireturn, 1) := by decide +kernel
theorem d_Law_main_863 : decode M_Law_main.2.1 863 = .ok (.goto 1450, 3) := by decide +kernel
theorem d_Law_main_866 : decode M_Law_main.2.1 866 = .ok (.aload_n 1, 1) := by decide +kernel
theorem d_Law_main_867 : decode M_Law_main.2.1 867 = .ok (.aload_n 0, 1) := by decide +kernel
theorem d_Law_main_868 : decode M_Law_main.2.1 868 = .ok (.iload 4, 2) := by decide +kernel
theorem d_Law_main_870 : decode M_Law_main.2.1 870 = .ok (.iconst 1, 1) := by decide +kernel
theorem d_Law_main_871 : decode M_Law_main.2.1 871 = .ok (.iadd, 1) := by decide +kernel
theorem d_Law_main_872 : decode M_Law_main.2.1 872 = .ok (.iaload, 1) := by decide +kernel
theorem d_Law_main_873 : decode M_Law_main.2.1 873 = .ok (.aload_n 3, 1) := by decide +kernel
theorem d_Law_main_874 : decode M_Law_main.2.1 874 = .ok (.invokestatic 157, 3) := by decide +kernel
theorem d_Law_main_877 : decode M_Law_main.2.1 877 = .ok (.istore 5, 2) := by decide +kernel
theorem d_Law_main_879 : decode M_Law_main.2.1 879 = .ok (.aload_n 2, 1) := by decide +kernel
theorem d_Law_main_880 : decode M_Law_main.2.1 880 = .ok (.aload_n 0, 1) := by decide +kernel
theorem d_Law_main_881 : decode M_Law_main.2.1 881 = .ok (.iload 4, 2) := by decide +kernel
theorem d_Law_main_883 : decode M_Law_main.2.1 883 = .ok (.iconst 1, 1) := by decide +kernel
theorem d_Law_main_884 : decode M_Law_main.2.1 884 = .ok (.iadd, 1) := by decide +kernel
theorem d_Law_main_885 : decode M_Law_main.2.1 885 = .ok (.iaload, 1) := by decide +kernel
theorem d_Law_main_886 : decode M_Law_main.2.1 886 = .ok (.invokevirtual 159, 3) := by decide +kernel
theorem d_Law_main_889 : decode M_Law_main.2.1 889 = .ok (.istore 6, 2) := by decide +kernel
theorem d_Law_main_891 : decode M_Law_main.2.1 891 = .ok (.aload_n 2, 1) := by decide +kernel
theorem d_Law_main_892 : decode M_Law_main.2.1 892 = .ok (.invokevirtual 122, 3) := by decide +kernel
theorem d_Law_main_895 : decode M_Law_main.2.1 895 = .ok (.iload 5, 2) := by decide +kernel
theorem d_Law_main_897 : decode M_Law_main.2.1 897 = .ok (.if_icmp .eq 5, 3) := by decide +kernel
theorem d_Law_main_900 : decode M_Law_main.2.1 900 = .ok (.iconst 0, 1) := by decide +kernel
theorem d_Law_main_901 : decode M_Law_main.2.1 901 = .ok (.ireturn, 1) := by decide +kernel
theorem d_Law_main_902 : decode M_Law_main.2.1 902 = .ok (.iload 5, 2) := by decide +kernel
theorem d_Law_main_904 : decode M_Law_main.2.1 904 = .ok (.ifCond .ne 22, 3) := by decide +kernel
theorem d_Law_main_907 : decode M_Law_main.2.1 907 = .ok (.aload_n 3, 1) := by decide +kernel
theorem d_Law_main_908 : decode M_Law_main.2.1 908 = .ok (.iconst 0, 1) := by decide +kernel
theorem d_Law_main_909 : decode M_Law_main.2.1 909 = .ok (.laload, 1) := by decide +kernel
theorem d_Law_main_910 : decode M_Law_main.2.1 910 = .ok (.iload 6, 2) := by decide +kernel
theorem d_Law_main_912 : decode M_Law_main.2.1 912 = .ok (.ifCond .eq 7, 3) := by decide +kernel
theorem d_Law_main_915 : decode M_Law_main.2.1 915 = .ok (.lconst 1, 1) := by decide +kernel
theorem d_Law_main_916 : decode M_Law_main.2.1 916 = .ok (.goto 4, 3) := by decide +kernel
theorem d_Law_main_919 : decode M_Law_main.2.1 919 = .ok (.lconst 0, 1) := by decide +kernel
theorem d_Law_main_920 : decode M_Law_main.2.1 920 = .ok (.lcmp, 1) := by decide +kernel
theorem d_Law_main_921 : decode M_Law_main.2.1 921 = .ok (.ifCond .eq 5, 3) := by decide +kernel
theorem d_Law_main_924 : decode M_Law_main.2.1 924 = .ok (.iconst 0, 1) := by decide +kernel
theorem d_Law_main_925 : decode M_Law_main.2.1 925 = .ok (.ireturn, 1) := by decide +kernel
theorem d_Law_main_926 : decode M_Law_main.2.1 926 = .ok (.goto 1387, 3) := by decide +kernel
theorem d_Law_main_929 : decode M_Law_main.2.1 929 = .ok (.aload_n 1, 1) := by decide +kernel
theorem d_Law_main_930 : decode M_Law_main.2.1 930 = .ok (.aload_n 0, 1) := by decide +kernel
theorem d_Law_main_931 : decode M_Law_main.2.1 931 = .ok (.iload 4, 2) := by decide +kernel
theorem d_Law_main_933 : decode M_Law_main.2.1 933 = .ok (.iconst 1, 1) := by decide +kernel
theorem d_Law_main_934 : decode M_Law_main.2.1 934 = .ok (.iadd, 1) := by decide +kernel
theorem d_Law_main_935 : decode M_Law_main.2.1 935 = .ok (.iaload, 1) := by decide +kernel
theorem d_Law_main_936 : decode M_Law_main.2.1 936 = .ok (.aload_n 3, 1) := by decide +kernel
theorem d_Law_main_937 : decode M_Law_main.2.1 937 = .ok (.invokestatic 160, 3) := by decide +kernel
theorem d_Law_main_940 : decode M_Law_main.2.1 940 = .ok (.istore 5, 2) := by decide +kernel
theorem d_Law_main_942 : decode M_Law_main.2.1 942 = .ok (.aload_n 2, 1) := by decide +kernel
theorem d_Law_main_943 : decode M_Law_main.2.1 943 = .ok (.aload_n 0, 1) := by decide +kernel
theorem d_Law_main_944 : decode M_Law_main.2.1 944 = .ok (.iload 4, 2) := by decide +kernel
theorem d_Law_main_946 : decode M_Law_main.2.1 946 = .ok (.iconst 1, 1) := by decide +kernel
theorem d_Law_main_947 : decode M_Law_main.2.1 947 = .ok (.iadd, 1) := by decide +kernel
theorem d_Law_main_948 : decode M_Law_main.2.1 948 = .ok (.iaload, 1) := by decide +kernel
